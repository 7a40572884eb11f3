/** Each sentence about texts that names a boundary case: setups, scripts, tokens, errors, promises 2 to 7. */
final class BoundsOfTextsTest {
    private static final int NONE = PuddleCity.NONE;
    private static final int SYNTAX = PuddleCity.SYNTAX;
    private static final int RANGE = PuddleCity.OUT_OF_RANGE;
    private static final int NAME = PuddleCity.BAD_NAME;
    private static final int MANY = PuddleCity.TOO_MANY;
    private static final int FEW = PuddleCity.TOO_FEW;
    private static final String TWO = "row 1 1;row 1 1;";
    private static final String FOUR_PAIRS = TWO + "boots a 0 1;boots b 1 1;boots c 2 1;boots d 3 1;";
    private static final int BLANKS = 0x20202020;

    public static void main(String[] args) {
        newObject();
        inputBuffer();
        setupText();
        scriptText();
        tokens();
        textErrors();
        loading();
        running();
        codeAndOffset();
        Check.finish();
    }

    private static int appendBlanks(PuddleCity city) {
        return city.appendInput(BLANKS, BLANKS, BLANKS, BLANKS, BLANKS);
    }

    private static void newObject() {
        Check.sentence("Promise 1", "with an empty input buffer");
        PuddleCity city = new PuddleCity();
        Check.no("not one byte", city.truncateInput(1));
        Check.yes("none", city.truncateInput(0));
        Check.same("an empty script", city.runScript(), 0);
        Check.same("an empty setup", city.loadSetup(), NONE);
        Check.same("ends at once", city.errorOffset(), 0);
        Check.same("20 bytes are the first ones", new PuddleCity().appendInput(-1, -1, -1, -1, -1), 20);
    }

    private static void inputBuffer() {
        fullBuffer();
        bytesOfAppendInput();
        truncating();
    }

    private static void fullBuffer() {
        Check.sentence("Setup text", "The input buffer holds at most 600 bytes");
        PuddleCity city = new PuddleCity();
        for (int length = 20; length <= 600; length += 20) {
            Check.same("length", appendBlanks(city), length);
        }
        Check.same("past the full buffer", appendBlanks(city), NONE);

        Check.sentence("Promise 2", "or NONE without a change if the length would exceed 600");
        Check.no("no longer than 600", city.truncateInput(601));
        Check.yes("to 581", city.truncateInput(581));
        Check.same("601 would be one too many", appendBlanks(city), NONE);
        Check.no("still 581", city.truncateInput(582));
        Check.yes("to 580", city.truncateInput(580));
        Check.same("600 is not", appendBlanks(city), 600);
        String full = padded(TWO + "rain 3;", 599) + ";";
        Check.feed(city, full);
        Check.same("a refused call", city.appendInput(0x726f7720, 0x3920393b, 0, 0, 0), NONE);
        Check.same("has not changed the last byte", city.loadSetup(), NONE);
        Check.same("which is the error", city.errorOffset(), 599);
        Check.same("an empty buffer takes 20 again", appendBlanks(city), 20);
    }

    private static String padded(String text, int length) {
        return text + Texts.repeated(" ", length - text.length());
    }

    private static void bytesOfAppendInput() {
        Check.sentence("Promise 2", "the four bytes of each parameter, most significant byte first");
        PuddleCity city = new PuddleCity();
        // each byte in turn is one that starts no token; 255 makes the highest one negative
        for (int place = 0; place < 20; place++) {
            int[] fours = {BLANKS, BLANKS, BLANKS, BLANKS, BLANKS};
            fours[place / 4] |= 0xff << 8 * (3 - place % 4);
            city.appendInput(fours[0], fours[1], fours[2], fours[3], fours[4]);
            Check.same("a bad byte", city.runScript(), NONE);
            Check.same("its place", city.errorOffset(), place);
        }
        Check.same("the least ints", city.appendInput(Integer.MIN_VALUE, Integer.MIN_VALUE, Integer.MIN_VALUE,
                Integer.MIN_VALUE, Integer.MIN_VALUE), 20);
        Check.same("and the greatest", city.appendInput(Integer.MAX_VALUE, Integer.MAX_VALUE, Integer.MAX_VALUE,
                Integer.MAX_VALUE, Integer.MAX_VALUE), 40);
        Check.same("are no script", city.runScript(), NONE);
        Check.same("from the first byte on", city.errorOffset(), 0);
    }

    private static void truncating() {
        Check.sentence("Promise 3",
                "or false without a change if length is negative or greater than the current length");
        PuddleCity city = new PuddleCity();
        Check.no("1 of an empty buffer", city.truncateInput(1));
        Check.yes("0 of an empty buffer", city.truncateInput(0));
        Check.feed(city, TWO + "\n   ");
        for (int wrong : new int[] {-1, 21, 600, 601, Integer.MIN_VALUE, Integer.MAX_VALUE}) {
            Check.no("refused " + wrong, city.truncateInput(wrong));
        }
        Check.yes("the length itself", city.truncateInput(20));
        Check.same("has changed nothing", city.loadSetup(), 4);
        Check.feed(city, TWO + "oh");
        Check.no("a negative length", city.truncateInput(-1));
        Check.yes("a shorter length", city.truncateInput(16));
        Check.no("cannot become greater again", city.truncateInput(18));
        Check.same("and cuts off the rest", city.loadSetup(), 4);
        Check.feed(city, TWO);
        Check.yes("nothing is left", city.truncateInput(0));
        Check.same("of an empty text", city.loadSetup(), NONE);
        Check.same("there are too few rows", city.errorCode(), FEW);
        Check.same("at its start", city.errorOffset(), 0);
    }

    private static void setupText() {
        statementsEndWithASemicolon();
        heightsOfRows();
        cellsOfEarlierRows();
        Check.sentence("Setup text", "RATE is 0 to 9");
        Check.same("the least rate", Check.city(TWO + "rain 0;").rain(), 0);
        Check.same("the greatest rate", Check.city(TWO + "rain 9;").rain(), 9);
        Texts.badSetup(RANGE, TWO + "rain @10;");
        Texts.badSetup(RANGE, TWO + "rain @99;");
        Check.sentence("Setup text", "Without a rain statement the rain is 0");
        Check.same("without", Check.city(TWO).rain(), 0);
        PuddleCity city = Check.city(TWO + "rain 9;");
        Check.feed(city, TWO);
        city.loadSetup();
        Check.same("without, behind a setup with", city.rain(), 0);
        theLastStatementCounts();
    }

    private static void statementsEndWithASemicolon() {
        Check.sentence("Setup text", "each statement ends with a semicolon");
        Texts.badSetup(SYNTAX, "row 1 1;row 1 1@");
        Texts.badSetup(SYNTAX, "row 1 1 @row 1 1;");
        Texts.badSetup(SYNTAX, TWO + "rain 1@");
        Texts.badSetup(SYNTAX, TWO + "gutter 0 1@");
        Texts.badSetup(SYNTAX, TWO + "gutter 0 1 @rain 1;");
        Texts.badSetup(SYNTAX, TWO + "boots a 0 1@");
        Texts.badSetup(SYNTAX, TWO + "boots a 0 1 @boots b 0 1;");
        Texts.badSetup(SYNTAX, TWO + "@;");
        Texts.badSetup(SYNTAX, "@;" + TWO);
    }

    private static void heightsOfRows() {
        Check.sentence("Setup text", "HEIGHT of a row is 0 to 9");
        Texts.goodSetup("row 0 9;row 9 0;", 4);
        Texts.badSetup(RANGE, "row @10 0;");
        Texts.badSetup(RANGE, "row 0 @10;");
        Texts.badSetup(RANGE, "row 0 0 0 0 0 0 0 @10;");
        Texts.badSetup(RANGE, "row 0 0;row @10 0;");
        Texts.badSetup(RANGE, "row 0 0;row 0 @99;");
        Check.sentence("Setup text", "the first row has 2 to 8 heights");
        Texts.badSetup(SYNTAX, "row @;");
        Texts.badSetup(SYNTAX, "row 1@;");
        Texts.goodSetup("row 1 1;row 1 1;", 4);
        Texts.goodSetup("row 1 1 1;row 1 1 1;", 6);
        Texts.goodSetup("row 1 1 1 1 1 1 1;row 1 1 1 1 1 1 1;", 14);
        Texts.goodSetup("row 1 1 1 1 1 1 1 1;row 1 1 1 1 1 1 1 1;", 16);
        Texts.badSetup(SYNTAX, "row 1 1 1 1 1 1 1 1 @1;");
        Check.sentence("Setup text", "and every other row has as many as the first one");
        Texts.badSetup(SYNTAX, "row 1 1 1;row @;");
        Texts.badSetup(SYNTAX, "row 1 1 1;row 1 1@;");
        Texts.badSetup(SYNTAX, "row 1 1 1;row 1 1 1 @1;");
        Texts.badSetup(SYNTAX, "row 1 1;row 1@;");
        Texts.badSetup(SYNTAX, "row 1 1;row 1 1 @1;");
        Texts.badSetup(SYNTAX, "row 1 1 1 1 1 1 1 1;row 1 1 1 1 1 1 1@;");
        Texts.badSetup(SYNTAX, "row 1 1 1 1 1 1 1 1;row 1 1 1 1 1 1 1 1 @1;");
        Texts.badSetup(SYNTAX, "row 1 1 1;row 1 1 1;row 1 1@;");
        Texts.badSetup(SYNTAX, "row 1 1 1;row 1 1 1;row 1 1 1 @1;");
    }

    private static void cellsOfEarlierRows() {
        Check.sentence("Setup text", "CELL is the number of a cell of a row that stands earlier in the text");
        Texts.badSetup(RANGE, "gutter @0 1;" + TWO);
        Texts.badSetup(RANGE, "boots a @0 1;" + TWO);
        Texts.goodSetup("row 1 1 1;gutter 2 1;boots a 2 1;row 1 1 1;", 6);
        Texts.badSetup(RANGE, "row 1 1 1;gutter @3 1;row 1 1 1;");
        Texts.badSetup(RANGE, "row 1 1 1;boots a @3 1;row 1 1 1;");
        Texts.goodSetup("row 1 1 1;row 1 1 1;gutter 5 1;gutter 0 1;boots a 5 1;boots b 0 1;", 6);
        Texts.badSetup(RANGE, "row 1 1 1;row 1 1 1;gutter @6 1;");
        Texts.badSetup(RANGE, "row 1 1 1;row 1 1 1;boots a @6 1;");
        PuddleCity large = Check.city(TWO);
        for (int i = 0; i < 3; i++) {
            Check.feed(large, "gutter 0 1;" + TWO);
            Check.same("a cell of the setup before", large.loadSetup(), NONE);
            Check.feed(large, "row 1 1;boots a 2 1;row 1 1;");
            Check.same("another cell of the setup before", large.loadSetup(), NONE);
            Check.feed(large, TWO + TWO);
            Check.same("a larger setup", large.loadSetup(), 8);
        }
        String most = Texts.repeated("row 1 1 1 1 1 1 1 1;", 8);
        Texts.goodSetup(most + "gutter 63 1;boots a 63 1;", 64);
        Texts.badSetup(RANGE, most + "gutter @64 1;");
        Texts.badSetup(RANGE, most + "boots a @64 1;");
        Texts.badSetup(RANGE, most + "gutter @99 1;");
    }

    private static void theLastStatementCounts() {
        Check.sentence("Setup text", "The last gutter statement for a cell and the last rain statement count");
        PuddleCity city = Check.city(TWO + "rain 9;gutter 0 9;gutter 1 8;gutter 0 1;rain 5;gutter 0 2;rain 0;");
        Check.same("the last of three gutters", city.gutterCapacity(0), 2);
        Check.same("the only gutter", city.gutterCapacity(1), 8);
        Check.same("no gutter", city.gutterCapacity(2), 0);
        Check.same("the last rain, although it is 0", city.rain(), 0);
        Check.same("a last rain that is higher", Check.city("rain 0;" + TWO + "rain 9;").rain(), 9);
    }

    private static void scriptText() {
        Check.sentence("Script text", "A script consists of at most 30 statements");
        Texts.goodScript("", 0);
        Texts.goodScript("\n", 0);
        Texts.goodScript("rain 0;", 1);
        Texts.goodScript(Texts.repeated("rain 0;", 30), 30);
        Texts.badScript(MANY, Texts.repeated("rain 0;", 30) + "@rain 0;");
        Check.sentence("Script text", "each statement ends with a semicolon");
        for (String statement : new String[] {"rain 1", "burst 0 1 1", "shut 0", "leaves 0 1", "sweep 0",
                "walk ann 1", "splash bob", "pass 1"}) {
            Texts.badScript(SYNTAX, statement + "@");
            Texts.badScript(SYNTAX, statement + " @pass 1;");
            Texts.badScript(SYNTAX, statement + " @1;");
            Texts.badScript(SYNTAX, statement + ";@;");
        }
        Texts.badScript(SYNTAX, "@;");
        Check.sentence("Script text", "DIRECTION is 0 to 3 for NORTH, EAST, SOUTH and WEST");
        int[] places = {1, 5, 7, 3};
        for (int direction = 0; direction < 4; direction++) {
            PuddleCity city = new PuddleCity();
            Check.same("a walk of bob", Check.script(city, "walk bob " + direction + ";"), 1);
            Check.same("his cell", city.placeOf(1), places[direction]);
        }
        Texts.badScript(RANGE, "walk bob @4;");
        Texts.badScript(RANGE, "walk bob @99;");
        Check.sentence("Script text", "MINUTES of pass are 1 to 60");
        Texts.badScript(RANGE, "pass @0;");
        Texts.badScript(RANGE, "pass @61;");
        PuddleCity city = new PuddleCity();
        Check.same("least and most", Check.script(city, "pass 1;pass 60;"), 2);
        Check.same("minutes", city.minute(), 61);
        otherRanges();
    }

    private static void otherRanges() {
        Check.sentence("Script text", "The other ranges are those of the methods");
        Texts.goodScript("rain 0;rain 9;", 2);
        Texts.badScript(RANGE, "rain @10;");
        Texts.goodScript("burst 0 1 1;burst 8 20 60;", 2);
        Texts.badScript(RANGE, "burst @9 1 1;");
        Texts.badScript(RANGE, "burst 0 @0 1;");
        Texts.badScript(RANGE, "burst 0 @21 1;");
        Texts.badScript(RANGE, "burst 0 1 @0;");
        Texts.badScript(RANGE, "burst 0 1 @61;");
        Texts.goodScript("burst 0 1 1;burst 8 1 1;shut 0;shut 8;", 4);
        Texts.badScript(RANGE, "shut @9;");
        Texts.goodScript("leaves 0 1;leaves 8 9;", 2);
        Texts.badScript(RANGE, "leaves @9 1;");
        Texts.badScript(RANGE, "leaves 0 @0;");
        Texts.badScript(RANGE, "leaves 0 @10;");
        Texts.goodScript("sweep 0;sweep 8;", 2);
        Texts.badScript(RANGE, "sweep @9;");
        PuddleCity least = Check.city(TWO);
        Check.same("the last cell of four", Check.script(least, "sweep 3;"), 1);
        Check.same("a cell of another city", Check.script(least, "sweep 4;"), NONE);
        PuddleCity most = Check.city(Texts.repeated("row 1 1 1 1 1 1 1 1;", 8));
        Check.same("the last cell of 64", Check.script(most, "sweep 63;"), 1);
        Check.same("no cell of any city", Check.script(most, "sweep 64;"), NONE);
    }

    private static void tokens() {
        wordsAndNumbers();
        blanks();
        Check.sentence("Tokens", "They are necessary only between two words and between two numbers");
        Texts.goodSetup("row1 1;row1 1;rain1;gutter0 1;boots a0 1;", 4);
        Texts.goodScript("walk bob0;pass1;burst0 1 1;splash ann;", 4);
        Texts.badScript(NAME, "walk @bobann 0;");
        Texts.badScript(SYNTAX, "@walkbob 0;");
        Texts.badScript(SYNTAX, "burst 01 1@;");
        Texts.badScript(SYNTAX, "burst @011 1;");
        Texts.badSetup(RANGE, "row @11;");
        // without a semicolon between them, two statements are not two
        Texts.badScript(SYNTAX, "pass 1@pass 1;");
    }

    private static void wordsAndNumbers() {
        Check.sentence("Tokens", "A word is a maximal run of lower-case letters and has at most 8 of them");
        for (int letters = 1; letters <= 12; letters++) {
            Texts.badScript(SYNTAX, "@" + Texts.repeated("z", letters) + " 1;");
            Texts.badScript(letters <= 6 ? NAME : SYNTAX, "splash @" + Texts.repeated("z", letters) + ";");
        }
        Texts.badScript(SYNTAX, "@pas s 1;");
        Texts.badScript(SYNTAX, "@passs 1;");
        Texts.badScript(SYNTAX, "pass@A 1;");
        Check.sentence("Tokens", "A number is a maximal run of digits and has at most 2 of them");
        Texts.goodScript("rain 0;rain 00;rain 9;rain 09;", 4);
        Texts.badScript(SYNTAX, "rain @000;");
        Texts.badScript(SYNTAX, "rain @009;");
        Texts.badScript(SYNTAX, "pass @100;");
        Texts.badScript(RANGE, "pass @99;");
        Texts.badScript(SYNTAX, "pass 1 @0;");
        // 2 to the 32nd and 1, and a number as long as the buffer allows
        Texts.badScript(SYNTAX, "pass @4294967297;");
        Texts.badScript(SYNTAX, "pass @" + Texts.repeated("0", 593) + "1;");
        Texts.badSetup(SYNTAX, "row @001 1;row 1 1;");
        Texts.badSetup(SYNTAX, "row 1 @100;");
        PuddleCity city = Check.city("row 00 01;row 09 9;gutter 03 09;boots a 00 01;rain 07;");
        Check.same("00", city.heightOf(0), 0);
        Check.same("01", city.heightOf(1), 1);
        Check.same("09", city.heightOf(2), 9);
        Check.same("07", city.rain(), 7);
    }

    private static void blanks() {
        Check.sentence("Tokens",
                "Spaces (byte 32) and line feeds (byte 10) may stand before, between and after tokens");
        Texts.goodSetup("\n row \n 1 \n1 \n; \nrow 1 1;\n \n", 4);
        Texts.goodScript(" \n walk \n bob\n0 \n;\n \n", 1);
        Check.sentence("Text errors", "or is a byte that starts no token");
        for (int sign = 0; sign < 256; sign++) {
            String text = "rain 1;@" + (char) sign;
            boolean blank = sign == ' ' || sign == '\n';
            boolean ofToken = sign >= 'a' && sign <= 'z' || sign >= '0' && sign <= '9' || sign == ';';
            if (blank) {
                Texts.goodScript("rain 1;" + (char) sign + "rain" + (char) sign + "2;", 2);
            } else {
                // a letter makes another word of the next one, a digit or a semicolon cannot stand there
                Texts.badScript(SYNTAX, text + "rain 2;");
            }
            if (!blank && !ofToken) {
                Texts.badScript(SYNTAX, "rain@" + (char) sign + "2;");
                Texts.badScript(SYNTAX, "rain 2@" + (char) sign + ";");
                Texts.badSetup(SYNTAX, TWO + "@" + (char) sign);
            }
        }
    }

    private static void textErrors() {
        firstError();
        errorAtTheEnd();
        smallestCode();
        syntaxErrors();
        badNames();
        tooMany();
        tooFew();
    }

    private static void firstError() {
        Check.sentence("Text errors", "the first error is reported with the offset of the first byte of its token");
        Texts.badSetup(SYNTAX, "@x 1 1;row 10 1;");
        Texts.badSetup(RANGE, "row @10 x;");
        Texts.badSetup(RANGE, "row   @10 1;row 1 1 1;");
        Texts.badSetup(RANGE, "row 1 1;row 1 \n @99;;;");
        Texts.badSetup(NAME, FOUR_PAIRS.replace("boots d", "boots @c") + "row 1;");
        Texts.badScript(RANGE, "rain @10;walk eve 0;;");
        Texts.badScript(NAME, "walk @eve 9;rain 10;");
        Texts.badScript(SYNTAX, "pass 1;   @abcdefghij 1;rain 10;");
        Texts.badScript(RANGE, Texts.repeated("rain 1;", 29) + "rain @10;rain 1;");
        // the last byte that a buffer can hold
        Texts.badScript(SYNTAX, padded("rain 1;", 599) + "@x");
        Texts.badScript(RANGE, padded("rain 1;rain", 598) + "@10");
    }

    private static void errorAtTheEnd() {
        Check.sentence("Text errors", "The offset of an error at the end of the text is the length of the text");
        Texts.badSetup(FEW, "@");
        Texts.badSetup(FEW, " \n @");
        Texts.badSetup(FEW, "row 1 1;@");
        Texts.badSetup(FEW, "row 1 1;  \n@");
        Texts.badSetup(SYNTAX, "row 1 1@");
        Texts.badSetup(SYNTAX, "row 1 1   @");
        Texts.badScript(SYNTAX, "pass@");
        Texts.badScript(SYNTAX, "pass 1\n\n@");
        Texts.badSetup(FEW, padded("row 1 1;", 600) + "@");
        Texts.badScript(SYNTAX, padded("pass 1", 600) + "@");
    }

    private static void smallestCode() {
        Check.sentence("Text errors",
                "If several errors apply to one token, the error with the smallest code is reported");
        Texts.badSetup(SYNTAX, "row 1 1 1 1 1 1 1 1 @10;");
        Texts.badSetup(SYNTAX, "row 1 1;row 1 1 @10;");
        Texts.badSetup(SYNTAX, "row @100 1;");
        Texts.badSetup(SYNTAX, TWO + "boots abcdef 0 1;boots @abcdefg 0 1;");
        Texts.badSetup(SYNTAX, FOUR_PAIRS + "@bootsboots");
        Texts.badSetup(SYNTAX, Texts.repeated("row 1 1;", 8) + "@rows 1 1;");
        // the end of a text within a statement, and with too few rows
        Texts.badSetup(SYNTAX, "row@");
        Texts.badSetup(SYNTAX, "row 1 1@");
        Texts.badSetup(SYNTAX, "row 1 1;rain 1@");
        Texts.badScript(SYNTAX, "walk @annbobx 0;");
        Texts.badScript(SYNTAX, "walk @7 0;");
        Texts.badScript(SYNTAX, Texts.repeated("rain 1;", 30) + "@x 1;");
        Texts.badScript(SYNTAX, Texts.repeated("rain 1;", 30) + "@;");
        Texts.badScript(SYNTAX, Texts.repeated("rain 1;", 30) + "@1");
    }

    private static void syntaxErrors() {
        Check.sentence("Text errors", "SYNTAX: the token cannot stand at this place, is too long");
        Texts.badSetup(SYNTAX, "@1 1;");
        Texts.badSetup(SYNTAX, "@now 1 1;");
        Texts.badSetup(SYNTAX, "@roq 1 1;");
        Texts.badSetup(SYNTAX, "@ro 1 1;");
        Texts.badSetup(SYNTAX, "row @row 1 1;");
        Texts.badSetup(SYNTAX, TWO + "gutter @a 1;");
        Texts.badSetup(SYNTAX, TWO + "gutter 0 @a;");
        Texts.badSetup(SYNTAX, TWO + "gutter 0@;");
        Texts.badSetup(SYNTAX, TWO + "gutter 0 1 @1;");
        Texts.badSetup(SYNTAX, TWO + "boots @0 a 1;");
        Texts.badSetup(SYNTAX, TWO + "boots a 0@;");
        Texts.badSetup(SYNTAX, TWO + "boots a 0 1 @1;");
        Texts.badSetup(SYNTAX, TWO + "rain @;");
        Texts.badSetup(SYNTAX, TWO + "rain 1 @1;");
        Texts.badSetup(SYNTAX, TWO + "@pass 1;");
        Texts.badScript(SYNTAX, "@mass 1;");
        Texts.badScript(SYNTAX, "@pas 1;");
        Texts.badScript(SYNTAX, "@row 1 1;");
        Texts.badScript(SYNTAX, "burst 0 1@;");
        Texts.badScript(SYNTAX, "walk ann@;");
        Texts.badScript(SYNTAX, "splash ann @0;");
        Check.sentence("Text errors", "or the text ends within a statement");
        Texts.badSetup(SYNTAX, TWO + "row@");
        Texts.badSetup(SYNTAX, TWO + "row 1@");
        Texts.badSetup(SYNTAX, TWO + "gutter@");
        Texts.badSetup(SYNTAX, TWO + "gutter 0@");
        Texts.badSetup(SYNTAX, TWO + "boots@");
        Texts.badSetup(SYNTAX, TWO + "boots a@");
        Texts.badSetup(SYNTAX, TWO + "boots a 0@");
        Texts.badSetup(SYNTAX, TWO + "rain@");
        for (String start : new String[] {"rain", "burst", "burst 0", "burst 0 1", "shut", "leaves", "leaves 0",
                "sweep", "walk", "walk ann", "splash", "pass"}) {
            Texts.badScript(SYNTAX, start + "@");
        }
        Check.sentence("Text errors",
                "a name of more than 6 letters, a height too many in a row, and a semicolon behind too few "
                + "heights are syntax errors, too");
        Texts.goodSetup(TWO + "boots abcdef 0 1;", 4);
        Texts.badSetup(SYNTAX, TWO + "boots @abcdefg 0 1;");
        Texts.badSetup(SYNTAX, TWO + "boots @abcdefgh 0 1;");
        Texts.badScript(NAME, "splash @abcdef;");
        Texts.badScript(SYNTAX, "splash @abcdefg;");
        Texts.badSetup(SYNTAX, "row 1 1 1 1 1 1 1 1 @1;");
        Texts.badSetup(SYNTAX, "row 1 1 1;row 1 1 1 @1;");
        Texts.badSetup(SYNTAX, "row 1@;");
        Texts.badSetup(SYNTAX, "row 1 1 1;row 1 1@;");
    }

    private static void badNames() {
        Check.sentence("Text errors", "BAD_NAME: the name in a boots statement of a setup belongs to earlier boots");
        Texts.badSetup(NAME, TWO + "boots a 0 1;boots @a 0 1;");
        Texts.badSetup(NAME, TWO + "boots a 0 1;boots b 0 1;boots c 0 1;boots @a 0 1;");
        Texts.badSetup(NAME, TWO + "boots a 0 1;boots b 0 1;boots c 0 1;boots @c 0 1;");
        // names of the city that is replaced are free
        Texts.goodSetup(TWO + "boots ann 0 1;boots bob 0 1;", 4);
        Check.sentence("Text errors", "or a name in a script belongs to no boots");
        Texts.badScript(NAME, "walk @a 0;");
        Texts.badScript(NAME, "walk @an 0;");
        Texts.badScript(NAME, "walk @anna 0;");
        Texts.badScript(NAME, "walk @bnn 0;");
        Texts.badScript(NAME, "splash @bobbob;");
        Texts.goodScript("walk ann 1;walk bob 1;", 2);
        PuddleCity none = Check.city(TWO);
        Texts.badScript(none, NAME, "splash @ann;");
        PuddleCity four = Check.city(FOUR_PAIRS);
        Texts.badScript(four, NAME, "walk @e 0;");
        Check.same("the first and the last of four", Check.script(four, "walk a 1;walk d 0;"), 2);
        PuddleCity renamed = Check.city(TWO + "boots abc 0 1;");
        Check.feed(renamed, TWO + "boots ab 0 1;boots abcdef 0 1;boots @");
        renamed.loadSetup();
        Texts.badScript(renamed, NAME, "walk @ab 0;");
        Texts.badScript(renamed, NAME, "walk @abcdef 0;");
    }

    private static void tooMany() {
        Check.sentence("Text errors", "TOO_MANY: the first word of a ninth row");
        String eight = Texts.repeated("row 1 1;", 8);
        Texts.goodSetup(eight, 16);
        Texts.badSetup(MANY, eight + "@row 1 1;");
        Texts.badSetup(MANY, eight + " @row");
        Texts.badSetup(MANY, eight + "rain 1;@row 10;");
        Texts.goodSetup(eight + "rain 1;gutter 15 1;boots a 15 1;", 16);
        Check.sentence("Text errors", "or of a fifth pair of boots of a setup");
        Texts.goodSetup(FOUR_PAIRS, 4);
        Texts.badSetup(MANY, FOUR_PAIRS + "@boots e 0 1;");
        Texts.badSetup(MANY, FOUR_PAIRS + " \n@boots");
        Texts.badSetup(MANY, FOUR_PAIRS + "rain 1;@boots a 99 0;");
        Texts.goodSetup(FOUR_PAIRS + "row 1 1;rain 1;", 6);
        Check.sentence("Text errors", "or of the 31st statement of a script");
        String thirty = Texts.repeated("rain 1;", 30);
        Texts.goodScript(thirty, 30);
        Texts.badScript(MANY, thirty + "@rain 1;");
        Texts.badScript(MANY, thirty + "\n@pass");
        Texts.badScript(MANY, thirty + "@walk eve 9;");
        for (String verb : new String[] {"rain", "burst", "shut", "leaves", "sweep", "walk", "splash", "pass"}) {
            Texts.badScript(MANY, thirty + "@" + verb + ";");
        }
        Texts.badScript(MANY, Texts.repeated("shut 0;", 30) + "@shut 0;");
    }

    private static void tooFew() {
        Check.sentence("Text errors", "TOO_FEW: the end of a setup with fewer than 2 rows");
        Texts.badSetup(FEW, "@");
        Texts.badSetup(FEW, "rain 1;@");
        Texts.badSetup(FEW, "row 1 1;@");
        Texts.badSetup(FEW, "row 1 1;gutter 1 1;boots a 1 1;rain 1; @");
        Texts.goodSetup("row 1 1;row 1 1;", 4);
        Texts.goodScript("", 0);
    }

    private static void loading() {
        Check.sentence("Promise 4", "empties the buffer in any case");
        PuddleCity city = new PuddleCity();
        Check.feed(city, TWO);
        Check.same("a valid setup", city.loadSetup(), 4);
        Check.no("empties it", city.truncateInput(1));
        Check.feed(city, "row");
        Check.same("an invalid setup", city.loadSetup(), NONE);
        Check.no("empties it, too", city.truncateInput(1));
        Check.same("an empty one", city.loadSetup(), NONE);
        Check.same("20 bytes of an empty buffer", appendBlanks(city), 20);

        Check.sentence("Promise 4", "A valid setup replaces everything except the output");
        PuddleCity again = Check.city(TWO + "gutter 0 9;gutter 3 9;boots a 0 1;boots b 0 1;rain 9;");
        for (int i = 0; i < 3; i++) {
            again.passMinutes(30);
            again.splash(0);
            again.writeRow(0);
            Check.feed(again, "row 2 2 2;row 2 2 2;gutter 5 1;boots c 5 9;rain " + (i + 2) + ";");
            Check.same("cells", again.loadSetup(), 6);
            Check.same("time " + i, Check.picture(again), Check.picture(
                    Check.city("row 2 2 2;row 2 2 2;gutter 5 1;boots c 5 9;rain " + (i + 2) + ";")));
            Check.same("the name", Check.name(again, 0), "c");
            Check.same("no splashes", again.splashesOf(0), 0);
            Check.same("the output", again.outputByte(0), '+');
        }
        Check.feed(again, "row 2 2 2;row 2 2 2;");
        Check.same("cells", again.loadSetup(), 6);
        Check.same("no gutter is left", again.gutterCapacity(5) + again.gutterCapacity(0), 0);
        Check.same("no boots are left", again.bootsCount(), 0);
        Check.same("no rain is left", again.rain(), 0);

        Check.sentence("Promise 4",
                "the minute is 0, all cells are dry and without leaves, no hydrant is open, all sums are "
                + "0, no change can be undone, and no state is saved");
        PuddleCity used = used();
        Check.feed(used, "row 0 1;row 2 3;gutter 3 1;boots ann 3 1;");
        Check.same("cells", used.loadSetup(), 4);
        Check.same("as a new one", Check.picture(used),
                Check.picture(Check.city("row 0 1;row 2 3;gutter 3 1;boots ann 3 1;")));
        Check.same("minute", used.minute(), 0);
        Check.same("leaves", Check.leaves(used), "0 0 0 0");
        Check.same("water", Check.waters(used), "0 0 0 0");
        Check.same("hydrants", used.burst(0, 1, 1), 1);
        Check.same("the first change", used.undo(), 0);
        Check.noElement("no earlier one", used::undo);
        Check.noElement("nothing saved", used::restoreState);
        Check.same("the output stays", used.outputByte(0), '+');
        Check.same("sums", used.rained() + used.fromHydrants() + used.drained() + used.evaporated(), 0);

        Check.sentence("Promise 4", "An invalid setup leaves everything as it was");
        PuddleCity kept = used();
        String before = Check.picture(kept);
        for (String wrong : new String[] {"", "row 0 1;row 2 3;gutter 3 9;boots eve 3 1;rain 9;oh", "row 0 1;"}) {
            Check.feed(kept, wrong);
            Check.same("returned for " + wrong, kept.loadSetup(), NONE);
            Check.same("the city", Check.picture(kept), before);
            Check.same("the name", Check.name(kept, 0), "ann");
            Check.same("the output", kept.outputByte(0), '+');
        }
        Check.same("the saved state", kept.restoreState(), 20);
        PuddleCity changed = used();
        Check.feed(changed, "row 0 1;");
        changed.loadSetup();
        Check.same("the changes", changed.undo(), 2);
        Check.same("the minute before", changed.minute(), 0);
    }

    /** A city in which everything is used: three changes, a saved state and an output. */
    private static PuddleCity used() {
        PuddleCity city = new PuddleCity();
        city.burst(0, 20, 60);
        city.dropLeaves(0, 9);
        city.passMinutes(20);
        city.writeRow(2);
        city.saveState();
        return city;
    }

    private static void running() {
        Check.sentence("Promise 5", "empties the buffer in any case");
        PuddleCity city = new PuddleCity();
        Check.same("a valid script", Check.script(city, "rain 3;"), 1);
        Check.no("empties it", city.truncateInput(1));
        Check.same("an invalid script", Check.script(city, "rain 4"), NONE);
        Check.no("empties it, too", city.truncateInput(1));
        Check.same("20 bytes of an empty buffer", appendBlanks(city), 20);

        Check.sentence("Promise 5", "its execution is one change, even if no statement is executed");
        PuddleCity empty = new PuddleCity();
        Check.same("an empty script", empty.runScript(), 0);
        Check.same("is a change", empty.undo(), 0);
        Check.same("a script that ends at once", Check.script(empty, "shut 0;rain 3;"), 0);
        Check.same("is a change, too", empty.undo(), 0);
        Check.same("the longest script", Check.script(empty, Texts.repeated("rain 3;", 30)), 30);
        Check.same("is one change", empty.undo(), 0);
        Check.same("that is undone", empty.rain(), 1);

        Check.sentence("Promise 5", "An invalid script is not executed");
        PuddleCity kept = used();
        String before = Check.picture(kept);
        Check.same("an error at the end", Check.script(kept, "rain 9;pass 5;leaves 0 1"), NONE);
        Check.same("31 statements", Check.script(kept, Texts.repeated("rain 9;", 31)), NONE);
        Check.same("nothing is executed", Check.picture(kept), before);
        Check.same("and nothing is a change", kept.undo(), 2);
        Check.same("nothing else is undone", kept.minute(), 0);
    }

    private static void codeAndOffset() {
        PuddleCity city = new PuddleCity();
        Check.sentence("Promise 6", "or NO_ERROR if that text was valid or there was no such call");
        Check.same("no such call", city.errorCode(), PuddleCity.NO_ERROR);
        appendBlanks(city);
        city.truncateInput(0);
        Check.same("a buffer that was not read", city.errorCode(), PuddleCity.NO_ERROR);
        Check.script(city, "x");
        Check.same("an error", city.errorCode(), SYNTAX);
        Check.noState("a refused call", () -> city.shut(0));
        Check.same("no text has been read since", city.errorCode(), SYNTAX);
        Check.script(city, "");
        Check.same("an empty script is valid", city.errorCode(), PuddleCity.NO_ERROR);
        city.loadSetup();
        Check.same("an empty setup is not", city.errorCode(), FEW);
        Check.script(city, "shut 0;");
        Check.same("a script that ends at once is valid", city.errorCode(), PuddleCity.NO_ERROR);
        Check.script(city, "rain 10;");
        Check.feed(city, TWO);
        city.loadSetup();
        Check.same("a valid setup behind an error", city.errorCode(), PuddleCity.NO_ERROR);

        Check.sentence("Promise 7", "or NONE if errorCode() is NO_ERROR");
        PuddleCity other = new PuddleCity();
        Check.same("no such call", other.errorOffset(), NONE);
        Check.script(other, "x");
        Check.same("an error at the start", other.errorOffset(), 0);
        other.passMinutes(1);
        appendBlanks(other);
        Check.same("no text has been read since", other.errorOffset(), 0);
        Check.same("a valid script", Check.script(other, ""), 0);
        Check.same("has none", other.errorOffset(), NONE);
        other.loadSetup();
        Check.same("the end of an empty setup", other.errorOffset(), 0);
        Check.feed(other, TWO);
        other.loadSetup();
        Check.same("a valid setup has none", other.errorOffset(), NONE);
    }
}
