import java.util.List;

/**
 * Calls that ask for all that a park holds: parks that answer them alike hold the same. Many of them change the park, so
 * each row of them is for a park of its own; a row is short enough to stay within 512 calls behind most runs of calls.
 */
final class Probes {
    static final List<List<Player.Call>> ALL = List.of(
            tricks(), places(), starts(), worths(), marks(), athletes(), course(), rides(), fastRides(), falls(), drawn(),
            closings());

    private Probes() {
    }

    /** The text once for each number from 0 to below the bound, which stands in place of its #. */
    static String each(int bound, String told) {
        StringBuilder all = new StringBuilder();
        for (int number = 0; number < bound; number++) {
            all.append(told.replace("#", String.valueOf(number)));
        }
        return all.toString();
    }

    /** The same for two numbers: the first one in place of @. */
    static String each(int bound, int second, String told) {
        StringBuilder all = new StringBuilder();
        for (int number = 0; number < bound; number++) {
            all.append(each(second, told.replace("@", String.valueOf(number))));
        }
        return all.toString();
    }

    private static List<Player.Call> tricks() {
        return Player.parsed("tricks(); trick('n', 'o', 'f', 'u', 12, 5, 1);"
                + each(60, "base(#); of(#, 's'); of(#, 'w'); of(#, 'a');"));
    }

    private static List<Player.Call> places() {
        return Player.parsed("fallShare(); meanParts(); checksum(); isTrue();"
                + each(6, 12, "sum(@, #); place(@, #); points(@, #);"));
    }

    private static List<Player.Call> starts() {
        return Player.parsed(each(6, 12, "starter(@, #); start(@, #); end();") + "checksum();");
    }

    private static List<Player.Call> worths() {
        return Player.parsed(each(60, "parts(#);") + each(8, 10, "worth(@, #);") + each(60, "score(#);")
                + each(60, "worth(#, 0);"));
    }

    private static List<Player.Call> marks() {
        return Player.parsed(each(6, 5, "control(@, #, 0); control(@, #, 50);") + each(12, 5, "mark(@, #, 77);")
                + each(60, "score(#); strike(#);"));
    }

    private static List<Player.Call> athletes() {
        return Player.parsed(each(12, "list(#); listed(#); hurt(#); choice(#, 1); choice(#, 40);")
                + each(12, 12, "risk(@, #, 50);") + "day(); day();" + each(12, "hurt(#);"));
    }

    private static List<Player.Call> course() {
        return Player.parsed("speed();" + each(10, 10, "line(@, #, 0);") + "feature('g', 0, 98, 1); quota(2); seed(9);"
                + "athlete(2); event('b', 0, 1); day(); end();" + each(10, "build(#, 0, 99, 0);"));
    }

    /** What is done on each feature, over what lines and with what speed; first in the run that may be open. */
    private static List<Player.Call> rides() {
        return Player.parsed(each(10, "does(0, #, '-'); speed();") + "end();"
                + each(10, 3, "start(0, #); start(1, #); does(0, @, '-'); speed(); does(0, #, '-'); end();"));
    }

    /** The first features with the speeds 60 and 99, which the features 8 and 9 bring about. */
    private static List<Player.Call> fastRides() {
        String starts = "start(0, 0); start(0, 1); start(1, 0);";
        return Player.parsed("end();" + "feature('g', 0, 99, 20);".repeat(10) + "build(8, 0, 99, 20); build(9, 0, 99, 10);"
                + "line(8, 9, 0); line(9, 8, 0);" + each(3, "line(8, #, 0); line(9, #, 0);")
                + each(3, starts + "does(0, 8, '-'); does(0, 9, '-'); does(0, #, '-'); speed(); end();"
                        + starts + "does(0, 8, '-'); does(0, 9, '-'); does(0, 8, '-'); does(0, 9, '-'); does(0, 8, '-');"
                        + "does(0, #, '-'); speed(); end();"));
    }

    /** How many falls an athlete had in an event shows as further ones hurt. */
    private static List<Player.Call> falls() {
        return Player.parsed("does(0, 0, 'f');" + each(12, "hurt(#);") + "end();"
                + each(2, 12, "start(@, #); does(0, 0, 'f'); hurt(#); does(0, 0, 'f'); hurt(#); does(0, 0, 'f'); hurt(#); end();"));
    }

    private static List<Player.Call> drawn() {
        return Player.parsed(each(6, 12, "enter(@, #);") + each(6, "draw(#); hold(#, false);")
                + each(6, 12, "starter(@, #);") + "seed(1); quota(1);");
    }

    private static List<Player.Call> closings() {
        return Player.parsed(each(6, 12, "heat(@, #, 1);") + "end();" + each(6, "round(#, 1); starter(#, 0);")
                + each(3, 3, "protest(@, #, 0);") + each(6, "hold(#, true); close(#);") + each(6, 12, "points(@, #);")
                + each(12, "list(#);"));
    }
}
