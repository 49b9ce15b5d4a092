/**
 * All promises: long runs of calls on a park and on ParkModel, whose answers and exceptions must be alike.
 * As later calls are compared too, a call that throws and yet changes something is found.
 */
public final class ModelTest {
    private static final Checks c = new Checks("ModelTest");
    private static final int PARKS = 1200;
    private static final int CALLS = 512;
    private static final int[] WILD = {-1, Integer.MIN_VALUE, Integer.MAX_VALUE, 60, 12, 10, 6, 5, 100, 64, -2147483647};

    private KickflipPark park;
    private ParkModel model;
    private long state;
    private int call;
    private int number;
    private int wildness;
    private int style;
    private final StringBuilder told = new StringBuilder();

    public static void main(String[] args) {
        ModelTest test = new ModelTest();
        int differing = 0;
        for (int number = 0; number < PARKS && differing < 3; number++) {
            differing += test.play(number) ? 0 : 1;
        }
        c.end();
    }

    /** A row of numbers that is the same in each session. */
    private int below(int bound) {
        state = state * 6364136223846793005L + 1442695040888963407L;
        return (int) ((state >>> 33) % bound);
    }

    /** Mostly a number from least to greatest, at times one far from them or just beyond. */
    private int number(int least, int greatest) {
        if (wildness > 0 && below(wildness) == 0) {
            int kind = below(3);
            return kind == 0 ? WILD[below(WILD.length)] : kind == 1 ? least - 1 : greatest + 1;
        }
        return greatest < least ? least : least + below(greatest - least + 1);
    }

    private char letter(String letters) {
        if (wildness > 0 && below(wildness) == 0) {
            return (char) below(260);
        }
        return letters.charAt(below(letters.length()));
    }

    private boolean play(int parkNumber) {
        number = parkNumber;
        park = new KickflipPark();
        model = new ParkModel();
        state = parkNumber * 7919L + 17;
        wildness = parkNumber % 5 == 0 ? 6 : parkNumber % 5 == 1 ? 0 : 60;
        style = parkNumber % 8;
        call = 0;
        told.setLength(0);
        if (parkNumber % 5 != 0 && !prepare()) {
            return false;
        }
        while (call < CALLS) {
            if (!step(choose())) {
                return false;
            }
        }
        return true;
    }

    private boolean prepare() {
        int[] calls = {3 + below(5), 8 + below(30), style == 7 ? 90 : 4 + below(20), 2 + below(11), 1 + below(6),
            8 + below(24), below(3)};
        int[] which = {0, 1, 3, 7, 9, 10, 11};
        for (int i = 0; i < calls.length; i++) {
            for (int j = 0; j < calls[i]; j++) {
                if (!step(which[i])) {
                    return false;
                }
            }
        }
        return true;
    }

    private int choose() {
        int kind = below(100);
        if (model.open != null) {
            return kind < (style < 2 ? 75 : style < 4 ? 55 : 25) ? 14 : kind < 85 ? 16 : below(43);
        }
        if (style == 7) {
            return kind < 60 ? 35 : kind < 80 ? 36 : below(43);
        }
        if (model.rides.size() >= 60 && kind < 40) {
            return kind < 20 ? 29 : 30 + below(3);
        }
        return kind < 40 ? 13 : kind < 52 ? 19 : kind < 56 ? 28 : kind < 64 ? 24 + below(3) : below(43);
    }

    private boolean same(String name, Checks.Call real, Checks.Call modeled, Object... arguments) {
        StringBuilder text = new StringBuilder(name).append('(');
        for (int i = 0; i < arguments.length; i++) {
            text.append(i == 0 ? "" : ", ").append(arguments[i]);
        }
        String want = Checks.outcome(modeled);
        String got = Checks.outcome(real);
        call++;
        told.append(text).append(") = ").append(want).append("; ");
        c.due("park " + number + ", call " + call + ", " + text + ")", got, want);
        if (!got.equals(want)) {
            System.out.println("  behind: " + told);
        }
        return got.equals(want);
    }

    private int anEvent() {
        return number(0, model.meets.size() - 1);
    }

    private int anAthlete() {
        return number(0, model.nations.size() - 1);
    }

    private int aTrick() {
        return number(0, model.tellings.size() - 1);
    }

    private int aFeature() {
        return number(0, model.kinds.size() - 1);
    }

    private int aRun() {
        return number(0, model.rides.size() - 1);
    }

    private boolean step(int which) {
        return which < 14 ? prepareStep(which) : which < 28 ? runStep(which) : laterStep(which);
    }

    private boolean prepareStep(int which) {
        int a = aFeature();
        int b = aFeature();
        int least = number(0, below(3) == 0 ? 99 : 20);
        int greatest = number(Math.max(0, Math.min(least, 98)), 99);
        int gain = number(-20, 20);
        int event = anEvent();
        int athlete = anAthlete();
        int trick = aTrick();
        switch (which) {
            case 0: {
                char kind = letter("rgld");
                return same("feature", () -> park.feature(kind, least, greatest, gain),
                        () -> model.feature(kind, least, greatest, gain), kind, least, greatest, gain);
            }
            case 1: {
                int loss = number(0, 20);
                return same("line", () -> park.line(a, b, loss), () -> model.line(a, b, loss), a, b, loss);
            }
            case 2:
                return same("build", () -> park.build(a, least, greatest, gain),
                        () -> model.build(a, least, greatest, gain), a, least, greatest, gain);
            case 3:
                return trickStep();
            case 4:
                return same("tricks", () -> park.tricks(), () -> model.tricks());
            case 5:
                return same("base", () -> park.base(trick), () -> model.base(trick), trick);
            case 6: {
                char what = letter("swa");
                return same("of", () -> park.of(trick, what), () -> model.of(trick, what), trick, what);
            }
            case 7: {
                int nation = number(0, 3);
                return same("athlete", () -> park.athlete(nation), () -> model.athlete(nation), nation);
            }
            case 8: {
                int quota = number(1, 4);
                return same("quota", () -> park.quota(quota), () -> model.quota(quota), quota);
            }
            case 9: {
                char format = letter("bsj");
                int edition = number(0, 7);
                int judges = number(1, below(2) == 0 ? 1 : 5);
                return same("event", () -> park.event(format, edition, judges),
                        () -> model.event(format, edition, judges), format, edition, judges);
            }
            case 10:
                return same("enter", () -> park.enter(event, athlete), () -> model.enter(event, athlete), event, athlete);
            case 11:
                return same("draw", () -> park.draw(event), () -> model.draw(event), event);
            case 12: {
                int place = number(0, 11);
                return same("starter", () -> park.starter(event, place), () -> model.starter(event, place), event, place);
            }
            default:
                return startStep();
        }
    }

    /** Mostly an athlete who may start, as few may otherwise. */
    private boolean startStep() {
        int event = anEvent();
        int athlete = anAthlete();
        for (int i = 0; i < model.meets.size() && below(8) > 0; i++) {
            ParkModel.Meet meet = model.meets.get(i);
            for (int who : meet.closed || meet.held ? java.util.List.<Integer>of() : meet.now()) {
                long had = model.rides.stream().filter(r -> r.meet == meet && r.athlete == who
                        && r.round == meet.rounds.size()).count();
                if (had < 2 && model.hurt(who) == 0 && below(3) == 0) {
                    event = i;
                    athlete = who;
                }
            }
        }
        int on = event;
        int starts = athlete;
        return same("start", () -> park.start(on, starts), () -> model.start(on, starts), on, starts);
    }

    private boolean trickStep() {
        char stance = letter("ns");
        char takeOff = letter("op");
        char way = letter("fb");
        char axis = letter("ucdi");
        int halves = number(0, below(3) == 0 ? 12 : 2);
        int grab = number(0, below(2) == 0 ? 5 : 0);
        int held = number(0, grab > 0 ? 3 : 0);
        return same("trick", () -> park.trick(stance, takeOff, way, axis, halves, grab, held),
                () -> model.trick(stance, takeOff, way, axis, halves, grab, held),
                stance, takeOff, way, axis, halves, grab, held);
    }

    /** Mostly one to which a line leads. */
    private int aFeatureToReach() {
        int feature = aFeature();
        int acts = model.open == null ? 0 : model.open.acts.size();
        for (int i = 0; acts > 0 && i < 12; i++) {
            if (model.lines.containsKey(java.util.List.of(model.open.acts.get(acts - 1).feature(), feature))) {
                return feature;
            }
            feature = aFeature();
        }
        return feature;
    }

    private boolean runStep(int which) {
        int event = anEvent();
        int athlete = anAthlete();
        int run = aRun();
        if (!model.rides.isEmpty() && below(4) > 0) {
            ParkModel.Ride ride = model.rides.get(below(model.rides.size()));
            event = model.meets.indexOf(ride.meet);
            athlete = ride.athlete;
        }
        return runStep(which, event, athlete, run);
    }

    private boolean runStep(int which, int event, int athlete, int run) {
        int place = number(0, below(2) == 0 ? 9 : 2);
        int trick = aTrick();
        switch (which) {
            case 14: {
                int feature = aFeatureToReach();
                char fault = letter(style == 3 ? "fffh-" : style == 2 ? "-" : "---hrf");
                return same("does", () -> park.does(trick, feature, fault), () -> model.does(trick, feature, fault),
                        trick, feature, fault);
            }
            case 15:
                return same("speed", () -> park.speed(), () -> model.speed());
            case 16:
                return same("end", () -> park.end(), () -> model.end());
            case 17:
                return same("worth", () -> park.worth(run, place), () -> model.worth(run, place), run, place);
            case 18:
                return same("parts", () -> park.parts(run), () -> model.parts(run), run);
            case 19:
                return markStep();
            case 20: {
                int judge = number(0, 4);
                int above = number(-50, 50);
                return same("control", () -> park.control(event, judge, above), () -> model.control(event, judge, above),
                        event, judge, above);
            }
            case 21:
                return same("score", () -> park.score(run), () -> model.score(run), run);
            case 22:
                return same("strike", () -> park.strike(run), () -> model.strike(run), run);
            case 23:
                return same("protest", () -> park.protest(run, place, trick), () -> model.protest(run, place, trick),
                        run, place, trick);
            case 24:
                return same("sum", () -> park.sum(event, athlete), () -> model.sum(event, athlete), event, athlete);
            case 25:
                return same("place", () -> park.place(event, athlete), () -> model.place(event, athlete), event, athlete);
            case 26: {
                int other = model.rides.isEmpty() || below(4) == 0 ? anAthlete()
                        : model.rides.get(below(model.rides.size())).athlete;
                return same("heat", () -> park.heat(event, athlete, other), () -> model.heat(event, athlete, other),
                        event, athlete, other);
            }
            default: {
                boolean is = below(3) == 0;
                return same("hold", () -> park.hold(event, is), () -> model.hold(event, is), event, is);
            }
        }
    }

    /** Mostly a mark that is missing, as runs are seldom marked by all otherwise. */
    private boolean markStep() {
        int run = aRun();
        int judge = number(0, 4);
        int mark = number(0, below(2) == 0 ? 100 : 2);
        for (ParkModel.Ride ride : model.rides) {
            if (below(4) > 0 && ride.ended && !ride.meet.closed && ride.meet.edition % 2 == 1
                    && ride.marks.size() < ride.meet.judges) {
                run = ride.number;
                judge = ride.marks.size();
            }
        }
        int marked = run;
        int by = judge;
        return same("mark", () -> park.mark(marked, by, mark), () -> model.mark(marked, by, mark), marked, by, mark);
    }

    private boolean laterStep(int which) {
        int event = anEvent();
        int athlete = anAthlete();
        switch (which) {
            case 28: {
                int many = number(1, below(3) == 0 ? 12 : 3);
                return same("round", () -> park.round(event, many), () -> model.round(event, many), event, many);
            }
            case 29:
                // Seldom while runs may still come, so that there are later rounds to close.
                if (style % 2 == 0 && below(8) > 0 && model.rides.size() < 60) {
                    return true;
                }
                return same("close", () -> park.close(event), () -> model.close(event), event);
            case 30: {
                int who = model.rides.isEmpty() ? athlete : model.rides.get(below(model.rides.size())).athlete;
                return same("points", () -> park.points(event, who), () -> model.points(event, who), event, who);
            }
            case 31:
                return same("list", () -> park.list(athlete), () -> model.list(athlete), athlete);
            case 32:
                return same("listed", () -> park.listed(athlete), () -> model.listed(athlete), athlete);
            case 33:
                return same("hurt", () -> park.hurt(athlete), () -> model.hurt(athlete), athlete);
            case 34:
                return same("day", () -> park.day(), () -> model.day());
            case 35: {
                int trick = aTrick();
                int risk = number(0, below(2) == 0 ? 100 : 3);
                return same("risk", () -> park.risk(athlete, trick, risk), () -> model.risk(athlete, trick, risk),
                        athlete, trick, risk);
            }
            case 36: {
                int need = number(1, below(4) == 0 ? 999 : 90);
                return same("choice", () -> park.choice(athlete, need), () -> model.choice(athlete, need), athlete, need);
            }
            case 37: {
                int z = number(1, 2147483646);
                return same("seed", () -> park.seed(z), () -> model.seed(z), z);
            }
            case 38:
                return same("fallShare", () -> park.fallShare(), () -> model.fallShare());
            case 39:
                return same("meanParts", () -> park.meanParts(), () -> model.meanParts());
            case 40:
                return same("checksum", () -> park.checksum(), () -> model.checksum());
            default:
                return same("isTrue", () -> park.isTrue(), () -> model.isTrue());
        }
    }
}
