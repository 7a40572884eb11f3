/** Promises 41 to 43: forecasts. */
final class ForecastTest {
    private static final int NONE = PuddleCity.NONE;
    private static final String SETUP = "row 5 4 3;row 6 2 1;row 5 4 0;gutter 8 2;gutter 2 5;boots ann 0 2;rain 3;";

    public static void main(String[] args) {
        sameAsWhatHappens();
        changesNothing();
        minutesUntilDry();
        pastTheLastMinute();
        refusals();
        Check.finish();
    }

    private static PuddleCity busyCity() {
        PuddleCity city = Check.city(SETUP);
        city.burst(0, 20, 17);
        city.burst(6, 3, 60);
        city.dropLeaves(1, 9);
        city.dropLeaves(8, 1);
        city.passMinutes(7);
        return city;
    }

    private static void sameAsWhatHappens() {
        for (int minutes : new int[] {0, 1, 2, 3, 13, 59, 60, 61, 100}) {
            PuddleCity city = busyCity();
            int[] forecast = new int[9];
            for (int cell = 0; cell < 9; cell++) {
                forecast[cell] = city.waterAfter(cell, minutes);
            }
            int drained = city.drainedAfter(minutes);
            for (int passed = 0; passed < minutes; passed++) {
                city.passMinutes(1);
            }
            for (int cell = 0; cell < 9; cell++) {
                Check.same("41: cell " + cell + " after " + minutes, forecast[cell], city.waterOn(cell));
            }
            Check.same("43: drained after " + minutes, drained, city.drained());
        }
        PuddleCity flat = Check.city("row 0 0;row 0 0;rain 2;gutter 0 2;gutter 1 1;");
        flat.passMinutes(1);
        Check.same("43: drained after 0", flat.drainedAfter(0), 3);
        Check.same("43: drained after 100", flat.drainedAfter(100), 303);
        Check.same("41: water after 0", flat.waterAfter(3, 0), flat.waterOn(3));
    }

    private static void changesNothing() {
        PuddleCity city = busyCity();
        String before = Check.picture(city);
        for (int cell = 0; cell < 9; cell++) {
            city.waterAfter(cell, 100);
            city.minutesUntilDry(cell);
        }
        city.drainedAfter(100);
        Check.same("41: a forecast changes nothing", Check.picture(city), before);
        Check.same("41: and is no change", city.undo(), 4);
        Check.no("41: boots stay dry in forecasts", city.isWet(0));
    }

    private static void minutesUntilDry() {
        PuddleCity city = Check.city("row 0 9;row 9 9;");
        Check.same("42: dry now", city.minutesUntilDry(0), 0);
        city.burst(0, 1, 1);
        city.passMinutes(1);
        Check.same("42: at minute 10", city.minutesUntilDry(0), 9);
        city.setRain(1);
        Check.same("42: never", city.minutesUntilDry(0), NONE);
        Check.same("42: dry now, though it will rain", city.minutesUntilDry(3), 0);
        PuddleCity other = Check.city("row 0 9;row 9 9;");
        other.burst(0, 20, 1);
        other.passMinutes(1);
        int dry = other.minutesUntilDry(0);
        Check.yes("42: some minutes", dry > 1 && dry <= 200);
        for (int i = 0; i < dry - 1; i++) {
            other.passMinutes(1);
        }
        Check.yes("42: not dry a minute before", other.waterOn(0) > 0);
        other.passMinutes(1);
        Check.same("42: dry then", other.waterOn(0), 0);

        Check.same("42: 21 units at minute 1 would last 209", flooded(0).minutesUntilDry(0), NONE);
        Check.same("42: 21 units at minute 9 would last 201", flooded(8).minutesUntilDry(0), NONE);
        Check.same("42: 20 units at minute 10 last 200", flooded(9).minutesUntilDry(0), 200);
        Check.same("42: 21 units at minute 19 would last 201", flooded(18).minutesUntilDry(3), NONE);
        Check.same("42: 20 units at minute 20 last 200", flooded(19).minutesUntilDry(3), 200);
        PuddleCity waning = flooded(8);
        waning.passMinutes(2);
        Check.same("42: 20 units at minute 11 last 199", waning.minutesUntilDry(0), 199);
        PuddleCity gutter = Check.city("row 0 0;row 0 0;rain 9;gutter 0 1;gutter 1 1;gutter 2 1;gutter 3 1;");
        gutter.passMinutes(1);
        gutter.setRain(0);
        Check.same("42: 8 units, 1 of them in each minute", gutter.minutesUntilDry(2), 8);
    }

    /** A flat city in which quiet minutes are followed by one that brings 21 units to each cell. */
    private static PuddleCity flooded(int quietMinutes) {
        PuddleCity city = Check.city("row 0 0;row 0 0;");
        if (quietMinutes > 0) {
            city.passMinutes(quietMinutes);
        }
        for (int cell = 0; cell < 4; cell++) {
            city.burst(cell, 20, 1);
        }
        city.setRain(1);
        city.passMinutes(1);
        city.setRain(0);
        return city;
    }

    private static void pastTheLastMinute() {
        PuddleCity city = Check.city("row 0 0;row 0 0;gutter 0 1;rain 1;");
        for (int i = 0; i < 16; i++) {
            city.passMinutes(60);
        }
        city.passMinutes(39);
        Check.same("8: minute", city.minute(), 999);
        Check.same("43: 100 minutes behind 999", city.drainedAfter(100), city.drained() + 100);
        Check.yes("41: 100 minutes behind 999", city.waterAfter(3, 100) > city.waterOn(3));
        Check.same("42: 200 minutes behind 999", city.minutesUntilDry(3), NONE);
        Check.same("8: the minute stays", city.minute(), 999);
    }

    private static void refusals() {
        PuddleCity city = new PuddleCity();
        for (int wrong : new int[] {-1, 101, 200, Integer.MIN_VALUE, Integer.MAX_VALUE}) {
            Check.noArgument("41: minutes " + wrong, () -> city.waterAfter(0, wrong));
            Check.noArgument("43: minutes " + wrong, () -> city.drainedAfter(wrong));
        }
        for (int wrong : new int[] {-1, 9, 64, Integer.MIN_VALUE, Integer.MAX_VALUE}) {
            Check.noIndex("41: cell " + wrong, () -> city.waterAfter(wrong, 0));
            Check.noIndex("41: the cell comes first", () -> city.waterAfter(wrong, 101));
            Check.noIndex("42: cell " + wrong, () -> city.minutesUntilDry(wrong));
        }
    }
}
