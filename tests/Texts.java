/** What the tests of setups and scripts share: texts that are right, and texts with a marked error. */
final class Texts {
    private Texts() {
    }

    static String repeated(String part, int times) {
        StringBuilder all = new StringBuilder();
        for (int i = 0; i < times; i++) {
            all.append(part);
        }
        return all.toString();
    }

    static void goodSetup(String setup, int cells) {
        PuddleCity city = new PuddleCity();
        Check.feed(city, setup);
        Check.same("4: cells of " + setup, city.loadSetup(), cells);
        noError(city, setup);
    }

    static void goodScript(String script, int executed) {
        PuddleCity city = new PuddleCity();
        Check.feed(city, script);
        Check.same("5: executed of " + script, city.runScript(), executed);
        noError(city, script);
        Check.same("5: one change by " + script, city.undo(), 0);
        Check.same("5: undone " + script, Check.picture(city), Check.picture(new PuddleCity()));
    }

    /** The mark @ shows where the error is, and is no part of the text. */
    static void badSetup(int code, String marked) {
        PuddleCity city = new PuddleCity();
        String before = Check.picture(city);
        Check.feed(city, withoutMark(marked));
        Check.same("4: loadSetup of " + marked, city.loadSetup(), PuddleCity.NONE);
        error(city, code, marked);
        Check.same("4: the city after " + marked, Check.picture(city), before);
    }

    /** The mark @ shows where the error is, and is no part of the text. */
    static void badScript(int code, String marked) {
        badScript(new PuddleCity(), code, marked);
    }

    static void badScript(PuddleCity city, int code, String marked) {
        String before = Check.picture(city);
        Check.feed(city, withoutMark(marked));
        Check.same("5: runScript of " + marked, city.runScript(), PuddleCity.NONE);
        error(city, code, marked);
        Check.same("5: the city after " + marked, Check.picture(city), before);
        Check.noElement("5: no change by " + marked, city::undo);
    }

    private static void noError(PuddleCity city, String text) {
        Check.same("6: code of " + text, city.errorCode(), PuddleCity.NO_ERROR);
        Check.same("7: offset of " + text, city.errorOffset(), PuddleCity.NONE);
        Check.no("the buffer is emptied after " + text, city.truncateInput(1));
    }

    private static void error(PuddleCity city, int code, String marked) {
        Check.same("6: code of " + marked, city.errorCode(), code);
        Check.same("7: offset of " + marked, city.errorOffset(), marked.indexOf('@'));
        Check.no("the buffer is emptied after " + marked, city.truncateInput(1));
    }

    private static String withoutMark(String marked) {
        int offset = marked.indexOf('@');
        return marked.substring(0, offset) + marked.substring(offset + 1);
    }
}
