/**
 * Fixed series of calls that use up what a world holds: two worlds that answer them alike were alike. They go on beyond
 * the 512 calls for which the document promises anything; Gangline does not count its calls.
 */
final class Probe {
    private final Gangline world;
    private final StringBuilder answers = new StringBuilder();

    private Probe(Gangline world) {
        this.world = world;
    }

    static String allOf(Gangline world) {
        Probe probe = new Probe(world);
        probe.look();
        probe.followPlans();
        probe.breed();
        probe.useUp();
        for (int round = 0; round < 11; round++) {
            probe.goOn();
        }
        probe.look();
        probe.endTheYear();
        probe.tellTrail();
        probe.breed();
        probe.raceAgain();
        return probe.answers.toString();
    }

    /** The legs alone, with what the teams have on and behind them as they are. */
    static String legsOf(Gangline world) {
        Probe probe = new Probe(world);
        for (int leg = 0; leg < 10; leg++) {
            probe.runAll();
        }
        return probe.answers.toString();
    }

    private interface Call {
        Object answer();
    }

    private void ask(String what, Call call) {
        answers.append(' ').append(what).append('=');
        try {
            answers.append(call.answer());
        } catch (RuntimeException e) {
            answers.append(e.getClass().getSimpleName());
        }
    }

    private void look() {
        answers.append('\n').append(Check.stateOf(world, true));
        ask("share", () -> world.inShare());
        ask("feet", () -> world.meanFeet());
        int dogs = Check.dogsOf(world);
        for (int dog = 0; dog < dogs; dog++) {
            int other = (dog + 1) % dogs;
            int asked = dog;
            ask("stop" + dog, () -> world.mustStop(asked));
            ask("kin" + dog, () -> world.areKin(asked, other));
        }
    }

    private void followPlans() {
        for (int i = 0; i < Check.teamsOf(world); i++) {
            int team = i;
            ask("isAdmitted", () -> world.isAdmitted(team));
            ask("why", () -> world.why(team));
            ask("forecast", () -> world.forecast(team));
            ask("follow", () -> world.follow(team));
            ask("clear", () -> world.clear(team));
        }
        look();
    }

    /** Parts, exchanges and rests; all teams begin first, for none can behind a long rest. */
    private void useUp() {
        for (int i = 0; i < Check.teamsOf(world); i++) {
            int team = i;
            ask("begin", () -> world.begin(team, 10));
        }
        for (int i = 0; i < Check.teamsOf(world); i++) {
            int team = i;
            ask("restMust", () -> world.restMust(team));
            ask("exchange", () -> world.exchange(team));
            ask("exchange", () -> world.exchange(team));
            ask("mend", () -> world.mend(team));
            ask("mend", () -> world.mend(team));
            ask("mend", () -> world.mend(team));
            ask("restLong", () -> world.restLong(team));
        }
    }

    private void runAll() {
        for (int i = 0; i < Check.teamsOf(world); i++) {
            int team = i;
            ask("run", () -> world.run(team));
            ask("why", () -> world.why(team));
            ask("boots", () -> world.teamOf(team, 'o'));
        }
        look();
    }

    private void goOn() {
        for (int i = 0; i < Check.teamsOf(world); i++) {
            int team = i;
            if (world.raceOf(team) != 'r') {
                continue;
            }
            for (int kilos = 256; kilos >= 1; kilos /= 2) {
                int taken = kilos;
                ask("take", () -> world.take(team, taken));
            }
            ask("camp", () -> world.camp(team, 5));
            ask("feed", () -> world.feed(team, 1));
            ask("melt", () -> world.melt(team));
            ask("restMust", () -> world.restMust(team));
            ask("estimate", () -> world.estimate(team));
            ask("run", () -> world.run(team));
            ask("boots", () -> world.teamOf(team, 'o'));
            ask("feet", () -> world.meanFeet());
        }
    }

    private void endTheYear() {
        for (int i = 0; i < Check.teamsOf(world); i++) {
            int team = i;
            ask("scratch", () -> world.scratch(team));
        }
        ask("storms", () -> world.storm(0, 0, 0, 1));
        ask("endYear", () -> world.endYear());
        ask("purse", () -> world.purse(0));
        look();
    }

    private void tellTrail() {
        for (int i = 0; i < 10; i++) {
            int leg = i;
            ask("cold", () -> world.cold(leg, 1));
            ask("must", () -> world.must(leg, false));
            ask("send", () -> world.send(0, leg, 7));
        }
        ask("leg", () -> world.leg(9, 9, 9));
        ask("storm", () -> world.storm(0, 0, 0, 1));
        ask("team", () -> world.team());
        ask("dog", () -> world.dog(0, 3, 3));
    }

    private void breed() {
        int dogs = Check.dogsOf(world);
        for (int i = 0; i < dogs; i++) {
            int dog = i;
            ask("train", () -> world.train(dog, 100));
            ask("litter", () -> world.litter(dog, (dog + 1) % dogs));
        }
    }

    private void raceAgain() {
        int dogs = Check.dogsOf(world);
        for (int i = 0; i < dogs; i++) {
            int dog = i;
            ask("hitch", () -> world.hitch(world.dogOf(dog, 'k'), dog));
        }
        useUp();
        goOn();
        goOn();
        look();
    }
}
