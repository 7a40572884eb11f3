/** Promises 56 and 57: rows written to the output. */
final class OutputTest {
    private static final int NONE = PuddleCity.NONE;

    public static void main(String[] args) {
        PuddleCity city = Check.city("row 0 9 0 9 0 9;row 9 9 9 9 9 9;");
        Check.same("57: nothing written", city.outputByte(0), NONE);
        Check.same("56: a dry row", city.writeRow(0), 6);
        Check.same("57: it", Check.output(city), "......");
        city.burst(0, 1, 1);
        city.burst(2, 9, 1);
        city.passMinutes(1);
        Check.same("56: digits", city.writeRow(0), 6);
        Check.same("57: 1 and 9", Check.output(city), "1.9...");
        city.burst(4, 10, 1);
        city.passMinutes(1);
        Check.same("13: ten units", city.waterOn(4), 10);
        Check.same("56: ten units", city.writeRow(0), 6);
        Check.same("57: a plus sign", Check.output(city), "1.9.+.");
        city.dropLeaves(0, 1);
        city.dropLeaves(1, 9);
        city.dropLeaves(4, 9);
        city.dropLeaves(4, 9);
        Check.same("56: with leaves", city.writeRow(0), 9);
        Check.same("57: percent signs", Check.output(city), "1%.%9.+%.");
        Check.same("57: the last byte", city.outputByte(8), '.');
        Check.same("57: behind the last", city.outputByte(9), NONE);
        Check.same("57: index -1", city.outputByte(-1), NONE);
        Check.same("57: least index", city.outputByte(Integer.MIN_VALUE), NONE);
        Check.same("57: greatest index", city.outputByte(Integer.MAX_VALUE), NONE);
        for (int wrong : new int[] {-1, 2, 6, Integer.MIN_VALUE, Integer.MAX_VALUE}) {
            Check.noIndex("56: row " + wrong, () -> city.writeRow(wrong));
        }
        Check.same("56: a refused row changes nothing", Check.output(city), "1%.%9.+%.");
        Check.same("56: another row", city.writeRow(1), 6);
        Check.same("57: it replaces the former output", Check.output(city), "......");
        Check.same("57: nothing behind it", city.outputByte(6), NONE);
        city.passMinutes(60);
        Check.same("57: the output is what was written", Check.output(city), "......");
        wideRow();
        Check.finish();
    }

    private static void wideRow() {
        PuddleCity city = Check.city("row 0 0 0 0 0 0 0 0;row 0 0 0 0 0 0 0 0;row 1 2 1 2 1 2 1 2;rain 2;");
        for (int cell = 8; cell < 16; cell++) {
            city.dropLeaves(cell, 1);
        }
        Check.same("56: the longest row", city.writeRow(1), 16);
        Check.same("57: it", Check.output(city), ".%.%.%.%.%.%.%.%");
        Check.same("57: behind it", city.outputByte(16), NONE);
        Check.same("56: the last row", city.writeRow(2), 8);
        Check.noIndex("56: no fourth row", () -> city.writeRow(3));
    }
}
