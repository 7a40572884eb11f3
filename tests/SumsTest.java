/** Promises 29 to 33 and 46: the sums of the water, and the invariants. */
final class SumsTest {
    public static void main(String[] args) {
        PuddleCity city = Check.city("row 9 9 9;row 9 0 9;rain 2;gutter 4 3;");
        city.burst(0, 7, 2);
        city.passMinutes(3);
        Check.same("30: 3 minutes of 2 on 6 cells", city.rained(), 36);
        Check.same("31: 2 minutes of 7", city.fromHydrants(), 14);
        Check.same("32: 3 minutes of 3", city.drained(), 9);
        Check.same("33: nothing yet", city.evaporated(), 0);
        Check.same("29: what is left", city.waterTotal(), 36 + 14 - 9);
        Check.yes("46: isConsistent", city.isConsistent());
        city.setRain(0);
        city.passMinutes(60);
        Check.same("30: no more", city.rained(), 36);
        Check.same("29: all gone but what cannot flow", city.waterTotal(),
                50 - city.drained() - city.evaporated());
        Check.yes("33: some evaporated", city.evaporated() > 0);
        Check.yes("46: isConsistent", city.isConsistent());

        city = Check.city("row 0 0;row 0 0;rain 5;");
        city.passMinutes(30);
        Check.same("30: rained", city.rained(), 600);
        Check.same("33: 3 times 4", city.evaporated(), 12);
        Check.same("29: waterTotal", city.waterTotal(), 588);
        Check.same("32: no gutter", city.drained(), 0);
        city.drainedAfter(100);
        city.waterAfter(0, 100);
        Check.same("30: a forecast does not count", city.rained(), 600);
        Check.same("33: a forecast does not count", city.evaporated(), 12);

        city = new PuddleCity();
        city.dropLeaves(0, 9);
        city.dropLeaves(4, 3);
        Check.yes("46: with leaves", city.isConsistent());
        city.sweep(0);
        Check.yes("46: with swept leaves", city.isConsistent());
        city.passMinutes(15);
        Check.yes("46: with leaves that went on", city.isConsistent());
        city.splash(1);
        city.walk(1, PuddleCity.EAST);
        Check.yes("46: behind splash and walk", city.isConsistent());
        city.saveState();
        city.undo();
        city.undo();
        Check.yes("46: behind undo", city.isConsistent());
        city.dropLeaves(2, 5);
        city.restoreState();
        Check.yes("46: behind restoreState", city.isConsistent());
        Check.finish();
    }
}
