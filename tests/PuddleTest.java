/** Promises 24 to 29: puddles and the deepest cell. */
final class PuddleTest {
    private static final int NONE = PuddleCity.NONE;

    public static void main(String[] args) {
        dryCity();
        severalPuddles();
        ringAndCorners();
        chessboard();
        deepest();
        Check.finish();
    }

    private static void dryCity() {
        PuddleCity city = new PuddleCity();
        Check.same("24: puddleCount", city.puddleCount(), 0);
        for (int cell = 0; cell < 9; cell++) {
            Check.same("25: puddleOf " + cell, city.puddleOf(cell), NONE);
        }
        refused(city, 0);
        Check.same("28: deepestCell of a dry city", city.deepestCell(), 0);
        Check.same("29: waterTotal", city.waterTotal(), 0);
    }

    private static void refused(PuddleCity city, int count) {
        for (int wrong : new int[] {-1, count, count + 1, 64, Integer.MIN_VALUE, Integer.MAX_VALUE}) {
            Check.noIndex("26: puddle " + wrong, () -> city.puddleSize(wrong));
            Check.noIndex("27: puddle " + wrong, () -> city.puddleWater(wrong));
        }
        int cells = city.columnCount() * city.rowCount();
        for (int wrong : new int[] {-1, cells, 64, Integer.MIN_VALUE, Integer.MAX_VALUE}) {
            Check.noIndex("25: cell " + wrong, () -> city.puddleOf(wrong));
        }
    }

    private static String puddles(PuddleCity city) {
        StringBuilder all = new StringBuilder();
        for (int cell = 0; cell < city.columnCount() * city.rowCount(); cell++) {
            int puddle = city.puddleOf(cell);
            all.append(puddle == NONE ? "." : String.valueOf(puddle));
        }
        return all.toString();
    }

    /** A city whose cells of height 0 are pits: each unit of water stays in its pit. */
    private static PuddleCity pits(String heights, int... waters) {
        PuddleCity city = Check.city(heights);
        for (int cell = 0; cell < waters.length; cell++) {
            if (waters[cell] > 0) {
                city.burst(cell, waters[cell], 1);
            }
        }
        city.passMinutes(1);
        return city;
    }

    private static void severalPuddles() {
        PuddleCity city = pits("row 9 9 9 0;row 0 9 0 0;row 0 9 9 9;", 0, 0, 0, 2, 3, 0, 2, 2, 3, 0, 0, 0);
        Check.same("13: water in the pits", Check.waters(city), "0 0 0 2 3 0 2 2 3 0 0 0");
        Check.same("24: puddleCount", city.puddleCount(), 2);
        Check.same("25: numbered by their smallest cells", puddles(city), "...01.001...");
        Check.same("26: size of 0", city.puddleSize(0), 3);
        Check.same("26: size of 1", city.puddleSize(1), 2);
        Check.same("27: water of 0", city.puddleWater(0), 6);
        Check.same("27: water of 1", city.puddleWater(1), 6);
        Check.same("29: waterTotal", city.waterTotal(), 12);
        Check.same("28: deepestCell", city.deepestCell(), 4);
        refused(city, 2);
    }

    private static void ringAndCorners() {
        PuddleCity ring = pits("row 0 0 0;row 0 9 0;row 0 0 0;", 1, 1, 1, 1, 0, 1, 1, 1, 1);
        Check.same("24: a ring is one puddle", ring.puddleCount(), 1);
        Check.same("25: the middle is dry", puddles(ring), "0000.0000");
        Check.same("26: size of the ring", ring.puddleSize(0), 8);
        Check.same("27: water of the ring", ring.puddleWater(0), 8);
        PuddleCity corners = pits("row 9 0 9;row 0 9 9;row 9 9 0;", 0, 4, 0, 5, 0, 0, 0, 0, 6);
        Check.same("25: corners do not join", puddles(corners), ".0.1....2");
        Check.same("27: water of 1", corners.puddleWater(1), 5);
        Check.same("27: water of 2", corners.puddleWater(2), 6);
        Check.same("26: asked first of all", pits("row 9 0 9;row 0 9 9;", 0, 4, 0, 5).puddleSize(1), 1);
        Check.same("27: asked first of all", pits("row 9 0 9;row 0 9 9;", 0, 4, 0, 5).puddleWater(1), 5);
        PuddleCity edge = pits("row 9 9 0;row 0 9 9;", 0, 0, 1, 1, 0, 0);
        Check.same("25: the end of a row is not beside the next one", puddles(edge), "..01..");
        // cells 0 and 3 are one puddle although 1 and 2 lie between them in the order of the cells
        PuddleCity hook = pits("row 0 9 0;row 0 9 0;row 0 0 0;", 1, 0, 1, 1, 0, 1, 1, 1, 1);
        Check.same("25: joined far behind", puddles(hook), "0.00.0000");
        Check.same("24: one puddle", hook.puddleCount(), 1);
    }

    private static void chessboard() {
        StringBuilder setup = new StringBuilder();
        for (int row = 0; row < 8; row++) {
            setup.append(row % 2 == 0 ? "row 0 9 0 9 0 9 0 9;" : "row 9 0 9 0 9 0 9 0;");
        }
        PuddleCity city = Check.city(setup + "rain 1;");
        city.passMinutes(1);
        Check.same("24: puddles of a chessboard", city.puddleCount(), 32);
        Check.same("25: the last cell", city.puddleOf(62), NONE);
        Check.same("25: the last pit", city.puddleOf(63), 31);
        Check.same("26: its size", city.puddleSize(31), 1);
        Check.same("29: all water is in the pits", city.waterTotal(), 64);
        refused(city, 32);
        PuddleCity flat = Check.city(setup.toString().replace('9', '0') + "rain 1;");
        flat.passMinutes(1);
        Check.same("24: puddles of a flat city", flat.puddleCount(), 1);
        Check.same("26: all cells", flat.puddleSize(0), 64);
        Check.same("27: all water", flat.puddleWater(0), 64);
    }

    private static void deepest() {
        Check.same("28: a tie", pits("row 9 0 9 0;row 9 9 9 9;", 0, 3, 0, 3).deepestCell(), 1);
        Check.same("28: the later one", pits("row 9 0 9 0;row 9 9 9 9;", 0, 3, 0, 4).deepestCell(), 3);
        Check.same("28: the last cell", pits("row 9 9;row 9 0;", 0, 0, 0, 1).deepestCell(), 3);
        Check.same("28: the first cell", pits("row 0 9;row 9 0;", 2, 0, 0, 1).deepestCell(), 0);
        // most water, not the highest level
        Check.same("28: not the level", pits("row 0 9 9;row 9 9 9;", 2, 0, 0, 0, 0, 1).deepestCell(), 0);
    }
}
