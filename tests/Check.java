/** What the tests share: comparing answers, counting the wrong ones, and filling the input buffer. */
final class Check {
    interface Call {
        void run();
    }

    private static int wrong = 0;
    private static String sentence = "";

    private Check() {
    }

    /** What follows tests this sentence of the document: the messages begin with it. */
    static void sentence(String where, String words) {
        sentence = "[" + where + ": " + words + "] ";
    }

    static void same(String what, long got, long want) {
        if (got != want) {
            fail(what + " answered " + got + ", due is " + want);
        }
    }

    static void same(String what, double got, double want) {
        if (got != want) {
            fail(what + " answered " + got + ", due is " + want);
        }
    }

    static void same(String what, String got, String want) {
        if (!got.equals(want)) {
            fail(what + " answered " + got + ", due is " + want);
        }
    }

    static void yes(String what, boolean got) {
        if (!got) {
            fail(what + " answered false, due is true");
        }
    }

    static void no(String what, boolean got) {
        if (got) {
            fail(what + " answered true, due is false");
        }
    }

    /** The class must be this very one: what the machine itself throws is a class below it. */
    static void refuses(String what, Class<? extends RuntimeException> due, Call call) {
        try {
            call.run();
        } catch (RuntimeException thrown) {
            if (thrown.getClass() != due) {
                fail(what + " threw " + thrown + ", due is " + due.getName());
            }
            return;
        }
        fail(what + " threw nothing, due is " + due.getName());
    }

    static void noIndex(String what, Call call) {
        refuses(what, IndexOutOfBoundsException.class, call);
    }

    static void noArgument(String what, Call call) {
        refuses(what, IllegalArgumentException.class, call);
    }

    static void noState(String what, Call call) {
        refuses(what, IllegalStateException.class, call);
    }

    static void noElement(String what, Call call) {
        refuses(what, java.util.NoSuchElementException.class, call);
    }

    static void fail(String message) {
        wrong++;
        System.out.println(sentence + message);
    }

    static void finish() {
        if (wrong != 0) {
            System.out.println(wrong + " answers are not as due");
            System.exit(1);
        }
    }

    /** Replaces what the input buffer holds by the text, one byte for each of its signs. */
    static void feed(PuddleCity city, String text) {
        city.truncateInput(0);
        for (int from = 0; from < text.length(); from += 20) {
            city.appendInput(four(text, from), four(text, from + 4), four(text, from + 8),
                    four(text, from + 12), four(text, from + 16));
        }
        if (!city.truncateInput(text.length())) {
            fail("the text is too long to be fed: " + text);
        }
    }

    static int four(String text, int from) {
        int value = 0;
        for (int i = from; i < from + 4; i++) {
            value = value << 8 | (i < text.length() ? text.charAt(i) & 255 : 32);
        }
        return value;
    }

    /** A new object with the city of the setup. */
    static PuddleCity city(String setup) {
        PuddleCity city = new PuddleCity();
        feed(city, setup);
        if (city.loadSetup() == PuddleCity.NONE) {
            fail("refused setup " + setup + ": code " + city.errorCode() + " at " + city.errorOffset());
        }
        return city;
    }

    static int script(PuddleCity city, String script) {
        feed(city, script);
        return city.runScript();
    }

    /** The water on all cells, with blanks between. */
    static String waters(PuddleCity city) {
        StringBuilder all = new StringBuilder();
        for (int cell = 0; cell < city.columnCount() * city.rowCount(); cell++) {
            all.append(cell == 0 ? "" : " ").append(city.waterOn(cell));
        }
        return all.toString();
    }

    static String leaves(PuddleCity city) {
        StringBuilder all = new StringBuilder();
        for (int cell = 0; cell < city.columnCount() * city.rowCount(); cell++) {
            all.append(cell == 0 ? "" : " ").append(city.leavesOn(cell));
        }
        return all.toString();
    }

    /** Everything that undo and restoreState give back, as one text. */
    static String picture(PuddleCity city) {
        StringBuilder all = new StringBuilder();
        all.append(city.minute()).append(' ').append(city.columnCount()).append(' ')
                .append(city.rowCount()).append(' ').append(city.rain());
        for (int cell = 0; cell < city.columnCount() * city.rowCount(); cell++) {
            all.append(" |").append(city.heightOf(cell)).append(' ').append(city.waterOn(cell))
                    .append(' ').append(city.leavesOn(cell)).append(' ')
                    .append(city.gutterCapacity(cell)).append(' ').append(city.hydrantRate(cell))
                    .append(' ').append(city.hydrantMinutes(cell));
        }
        for (int boots = 0; boots < city.bootsCount(); boots++) {
            all.append(" /").append(city.placeOf(boots)).append(' ').append(city.bootHeight(boots))
                    .append(' ').append(city.isWet(boots)).append(' ')
                    .append(city.splashesOf(boots));
        }
        all.append(" =").append(city.rained()).append(' ').append(city.fromHydrants()).append(' ')
                .append(city.drained()).append(' ').append(city.evaporated()).append(' ')
                .append(city.isConsistent());
        return all.toString();
    }

    static String name(PuddleCity city, int boots) {
        StringBuilder all = new StringBuilder();
        for (int i = 0; i < 20 && city.nameByte(boots, i) != PuddleCity.NONE; i++) {
            all.append((char) city.nameByte(boots, i));
        }
        return all.toString();
    }

    static String output(PuddleCity city) {
        StringBuilder all = new StringBuilder();
        for (int i = 0; i < 40 && city.outputByte(i) != PuddleCity.NONE; i++) {
            all.append((char) city.outputByte(i));
        }
        return all.toString();
    }
}
