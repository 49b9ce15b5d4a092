import java.util.List;

/**
 * Plays runs of calls on new objects, told as the document tells its examples: "call = answer", and
 * "call = throws Exception" for a refused one. The park and its model must answer as is due, and behind each refused call
 * a park that was asked it and one that was not must answer all probes alike: a refused call changes nothing.
 */
final class Edges {
    private static final int CALLS = 512;

    private final Checks checks;

    Edges(String test) {
        checks = new Checks(test);
    }

    /** The sentence of the document that the run holds, behind the promise's number; the parts are one run of calls. */
    void edge(String sentence, String... parts) {
        List<Player.Call> calls = Player.parsed(String.join(";", parts));
        Player park = new Player(new KickflipPark());
        Player model = new Player(new ParkModel());
        for (int i = 0; i < calls.size(); i++) {
            Player.Call call = calls.get(i);
            String told = sentence + ": call " + (i + 1) + ", " + call;
            asDue(told, park.answer(call), call.due());
            asDue(told + " of the model", model.answer(call), call.due());
            if (call.isRefused()) {
                changesNothing(told, calls.subList(0, i + 1));
            }
        }
        checks.due(sentence + ": calls of one object are no more than 512", park.calls() <= CALLS, true);
    }

    void end() {
        checks.end();
    }

    private void asDue(String told, String got, String due) {
        if (due == null) {
            checks.due(told + " throws", got.startsWith("throws ") ? got : "nothing", "nothing");
        } else {
            checks.due(told, got, due);
        }
    }

    private void changesNothing(String told, List<Player.Call> calls) {
        for (List<Player.Call> probes : Probes.ALL) {
            Player asked = played(calls, true);
            Player unasked = played(calls, false);
            for (Player.Call probe : probes) {
                if (asked.calls() < CALLS) {
                    checks.due(told + ": behind it, " + probe, asked.answer(probe), unasked.answer(probe));
                }
            }
        }
    }

    private static Player played(List<Player.Call> calls, boolean withRefused) {
        Player player = new Player(new KickflipPark());
        for (Player.Call call : calls) {
            if (withRefused || !call.isRefused()) {
                player.answer(call);
            }
        }
        return player;
    }
}
