/** Promises 44 and 45: the mean water and the wet part. */
final class MeansTest {
    public static void main(String[] args) {
        PuddleCity city = new PuddleCity();
        Check.same("44: dry", city.meanWater(), 0.0);
        Check.same("45: dry", city.wetPart(), 0.0f);
        city.passMinutes(1);
        Check.same("44: 7 on 9 cells", city.meanWater(), 7.0 / 9.0);
        Check.same("45: wet cells of 9", city.wetPart(), wetCells(city) / 9.0f);

        city = Check.city("row 0 9 9;row 9 9 9;");
        city.burst(0, 7, 1);
        city.passMinutes(1);
        Check.same("44: 7 on 6 cells", city.meanWater(), 7.0 / 6.0);
        Check.same("45: 1 of 6 cells", city.wetPart(), 1.0f / 6.0f);
        Check.yes("45: a float's sixth", (double) city.wetPart() != 1.0 / 6.0);

        city = Check.city("row 0 0 0 0 0 0 0;row 0 0 0 0 0 0 0;row 0 0 0 0 0 0 0;rain 3;");
        city.passMinutes(1);
        Check.same("44: all alike", city.meanWater(), 3.0);
        Check.same("45: all wet", city.wetPart(), 1.0f);
        city.setRain(0);
        city.passMinutes(9);
        Check.same("44: a unit evaporated", city.meanWater(), 2.0);
        city.passMinutes(20);
        Check.same("45: all dry", city.wetPart(), 0.0f);
        Check.finish();
    }

    private static int wetCells(PuddleCity city) {
        int wet = 0;
        for (int cell = 0; cell < 9; cell++) {
            wet += city.waterOn(cell) > 0 ? 1 : 0;
        }
        return wet;
    }
}
