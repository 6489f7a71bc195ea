/** Promises 33 to 48: what is asked, purses, years and kennels. */
public final class AskedTest {
    public static void main(String[] args) {
        dogOf();
        stateOf();
        mustStop();
        teamOf();
        raceOf();
        owed();
        standing();
        standingOfEqualOnes();
        standingByOwed();
        estimate();
        purse();
        endYear();
        endYearPays();
        litter();
        litterOfKin();
        litterBars();
        areKin();
        train();
        inShare();
        meanFeet();
        isTrue();
        Check.end("AskedTest");
    }

    private static void dogOf() {
        Gangline world = Check.begun(2, 2);
        for (int dog : new int[] {-1, 10, Integer.MIN_VALUE, Integer.MAX_VALUE}) {
            Check.out(world, "dogOf", () -> world.dogOf(dog, 'z'));
            Check.out(world, "stateOf", () -> world.stateOf(dog));
            Check.out(world, "mustStop", () -> world.mustStop(dog));
        }
        for (char what : new char[] {'F', 'z', 'd', 0, 'm', ' ', 65535}) {
            Check.bad(world, "dogOf " + what, () -> world.dogOf(0, what));
        }
        world.run(0);
        int[] due = {100, 75, 80, 5, 8, 3, 2, 0, 31};
        for (int i = 0; i < due.length; i++) {
            Check.same("dogOf " + "fewtslakp".charAt(i), world.dogOf(4, "fewtslakp".charAt(i)), due[i]);
        }
        Check.same("team of another", world.dogOf(5, 'k'), 1);
        Check.same("food of another", world.dogOf(5, 'e'), 100);
        Check.same("lead of 9", Check.begun(1, 1).dogOf(0, 'l'), 3);
    }

    private static void stateOf() {
        Gangline world = Check.ready(2, 2);
        int idle = world.dog(0, 5, 5);
        Check.letter("in the kennel", world.stateOf(idle), 'k');
        Check.letter("hitched", world.stateOf(0), 'h');
        world.begin(0, 60);
        Check.letter("in a race", world.stateOf(0), 'r');
        world.drop(0, 0);
        Check.letter("dropped", world.stateOf(0), 'd');
        world.help(0);
        world.help(0);
        Check.letter("its team is out", world.stateOf(1), 'd');
        world.begin(1, 60);
        world.run(1);
        world.restLong(1);
        world.run(1);
        Check.letter("its team came in", world.stateOf(5), 'd');
        world.endYear();
        for (int dog = 0; dog < 11; dog++) {
            Check.letter("in the kennel again", world.stateOf(dog), 'k');
        }
    }

    private static void mustStop() {
        Check.is("must stop with feet of 14", () -> withFeet(14).mustStop(0));
        Check.isNot("must stop with feet of 15", () -> withFeet(15).mustStop(0));
        Gangline thirsty = new Gangline();
        thirsty.leg(120, 0, 0);
        thirsty.leg(118, 0, 0);
        thirsty.leg(5, 0, 0);
        Check.addTeam(thirsty, 5, 8, 0);
        thirsty.cold(0, -5);
        thirsty.begin(0, 0);
        thirsty.run(0);
        Check.isNot("must stop with water of 40", () -> thirsty.mustStop(0));
        thirsty.run(0);
        Check.same("water", thirsty.dogOf(0, 'w'), 0);
        Check.is("must stop without water", () -> thirsty.mustStop(0));
        Gangline hungry = new Gangline();
        hungry.leg(120, 0, 0);
        hungry.leg(5, 0, 0);
        Check.addTeam(hungry, 5, 8, 0);
        hungry.begin(0, 200);
        hungry.run(0);
        Check.same("food", hungry.dogOf(0, 'e'), 0);
        Check.is("must stop without food", () -> hungry.mustStop(0));
    }

    /** A world whose dogs have 14 or 15 for their feet, and food and water: 14 and 15 less behind each leg. */
    private static Gangline withFeet(int feet) {
        Gangline world = new Gangline();
        for (int i = 0; i < 6; i++) {
            world.leg(i == 5 || i == 4 && feet == 14 ? 56 : 50, 9, 0);
            world.cold(i, -31);
        }
        world.leg(5, 0, 0);
        Check.addTeam(world, 5, 8, 0);
        world.begin(0, 200);
        for (int i = 0; i < 6; i++) {
            world.melt(0);
            if (world.teamOf(0, 'k') >= 15) {
                world.feed(0, 3);
            }
            world.run(0);
        }
        Check.same("feet of such a world", world.dogOf(0, 'f'), feet);
        return world;
    }

    private static void teamOf() {
        Gangline world = Check.begun(3, 2);
        for (int team : new int[] {-1, 2, Integer.MIN_VALUE, Integer.MAX_VALUE}) {
            Check.out(world, "teamOf", () -> world.teamOf(team, 'z'));
            Check.out(world, "raceOf", () -> world.raceOf(team));
            Check.out(world, "owed", () -> world.owed(team));
            Check.out(world, "estimate", () -> world.estimate(team));
        }
        for (char what : new char[] {'M', 'z', 'w', 0, 't', ' ', 65535}) {
            Check.bad(world, "teamOf " + what, () -> world.teamOf(0, what));
        }
        world.boots(1, true);
        world.run(1);
        world.drop(1, 7);
        int[] due = {146, 1, 60, 96, 0, 3, 5, 4, 0, 0};
        for (int i = 0; i < due.length; i++) {
            Check.same("teamOf " + "mcksbpodef".charAt(i), world.teamOf(1, "mcksbpodef".charAt(i)), due[i]);
        }
        Check.same("checkpoint of another", world.teamOf(0, 'c'), 0);
    }

    private static void raceOf() {
        Gangline world = Check.ready(2, 3);
        Check.letter("not begun", world.raceOf(0), '-');
        world.begin(0, 60);
        world.begin(1, 60);
        Check.letter("on its way", world.raceOf(0), 'r');
        world.run(0);
        world.restLong(0);
        Check.letter("still on its way", world.raceOf(0), 'r');
        world.run(0);
        Check.letter("finished", world.raceOf(0), 'f');
        world.scratch(1);
        Check.letter("out", world.raceOf(1), 'x');
        Check.letter("not begun yet", world.raceOf(2), '-');
        world.endYear();
        Check.letter("not begun in the next year", world.raceOf(0), '-');
        Check.letter("nor the one that was out", world.raceOf(1), '-');
    }

    private static void owed() {
        Gangline world = Check.ready(4, 3);
        world.must(1, true);
        world.must(3, true);
        Check.same("ahead of the beginning", world.owed(0), 0);
        world.begin(0, 100);
        Check.same("of a lone one", world.owed(0), 1440 + 960);
        world.begin(1, 100);
        world.begin(2, 100);
        Check.same("of the first", world.owed(0), 1444 + 960);
        Check.same("of the second", world.owed(1), 1442 + 960);
        Check.same("of the last", world.owed(2), 1440 + 960);
        world.help(0);
        Check.same("with a penalty", world.owed(0), 1444 + 960 + 120);
        world.run(0);
        Check.same("at the rest", world.owed(0), 1444 + 960 + 120);
        world.restMust(0);
        Check.same("behind the rest", world.owed(0), 1444 + 480 + 120);
        world.run(0);
        world.restLong(0);
        Check.same("behind the long rest", world.owed(0), 480 + 120);
        world.run(0);
        Check.same("at the last rest", world.owed(0), 480 + 120);
        world.restMust(0);
        Check.same("behind all rests", world.owed(0), 120);
        world.feed(0, 1);
        world.melt(0);
        world.run(0);
        Check.letter("finished", world.raceOf(0), 'f');
        Check.same("of the finished", world.owed(0), 120);
        world.scratch(1);
        Check.same("of one that is out", world.owed(1), 0);
        Check.same("the last that began later may be out", world.owed(2), 1440 + 960);
    }

    private static void standing() {
        Gangline world = Check.ready(3, 5);
        Check.text("nobody has begun", Check.standings(world), " places");
        for (int i = 0; i < 5; i++) {
            world.begin(i, 60);
        }
        Check.text("all are as late", Check.standings(world), " places 0 1 2 3 4");
        world.run(3);
        Check.text("a greater checkpoint", Check.standings(world), " places 3 0 1 2 4");
        world.run(1);
        world.camp(1, 1);
        Check.text("the same checkpoint", Check.standings(world), " places 3 1 0 2 4");
        world.scratch(0);
        Check.text("one is out", Check.standings(world), " places 3 1 2 4");
        finish(world, 4);
        Check.text("one finished", Check.standings(world), " places 4 3 1 2");
        finish(world, 2);
        Check.text("two finished", Check.standings(world), " places 2 4 3 1");
        for (int place : new int[] {-1, 4, Integer.MIN_VALUE, Integer.MAX_VALUE}) {
            Check.out(world, "standing " + place, () -> world.standing(place));
        }
    }

    /** Runs all legs and takes the long rest behind the first one. */
    private static void finish(Gangline world, int team) {
        while (world.raceOf(team) == 'r') {
            world.melt(team);
            if (world.teamOf(team, 'k') >= world.teamOf(team, 'd')) {
                world.feed(team, 1);
            }
            if (world.teamOf(team, 'c') == 1) {
                world.restLong(team);
            }
            world.run(team);
        }
    }

    private static void standingOfEqualOnes() {
        Gangline world = Check.begun(2, 3);
        finish(world, 2);
        finish(world, 1);
        finish(world, 0);
        Check.same("minute of the first", world.teamOf(0, 'm'), world.teamOf(2, 'm'));
        Check.text("start differences are given back", Check.standings(world), " places 0 1 2");
        Gangline helped = Check.begun(2, 3);
        helped.help(0);
        for (int i = 0; i < 3; i++) {
            finish(helped, i);
        }
        Check.text("penalties count at the finish", Check.standings(helped), " places 1 2 0");
    }

    private static void standingByOwed() {
        Gangline world = Check.begun(3, 3);
        for (int i = 0; i < 3; i++) {
            world.run(i);
        }
        world.restLong(1);
        Check.text("a rest that was taken is not owed", Check.standings(world), " places 0 1 2");
        world.help(0);
        Check.text("a penalty", Check.standings(world), " places 1 2 0");
        world.camp(1, 3);
        Check.text("minutes", Check.standings(world), " places 2 0 1");
        world.camp(2, 2);
        Check.text("as much of both", Check.standings(world), " places 0 2 1");
    }

    private static void estimate() {
        Gangline world = Check.ready(2, 1);
        Check.cannot(world, "estimate ahead of the beginning", () -> world.estimate(0));
        world.must(1, true);
        world.begin(0, 60);
        Check.same("estimate", world.estimate(0), 144);
        world.run(0);
        Check.same("estimate with a rest ahead", world.estimate(0), 40 * 6 * 120 / 155);
        world.storm(1, 0, 99, 9);
        Check.same("estimate in a closing storm", world.estimate(0), 40 * 15 * 120 / 155 + 15 * 6);
        world.drop(0, 0);
        Check.same("estimate with 4 dogs", world.estimate(0), 40 * 15 * 120 / 124 + 15 * 6);
        world.scratch(0);
        Check.cannot(world, "estimate when out", () -> world.estimate(0));
    }

    private static void purse() {
        Gangline world = new Gangline();
        Check.bad(world, "purse of -1", () -> world.purse(-1));
        Check.bad(world, "purse of 100000", () -> world.purse(100000));
        Check.same("purse of 0", world.purse(0), 0);
        Check.same("purse of 99999", world.purse(99999), 99999);
        Check.same("purse of 1", world.purse(1), 100000);
        Check.same("the year", world.endYear(), 1);
        Check.same("the purse stays", world.purse(0), 100000);
    }

    private static void endYear() {
        Gangline world = Check.ready(2, 2);
        int pup = world.litter(0, 1);
        world.lease(pup, 1);
        world.storm(0, 0, 99, 5);
        world.send(1, 1, 200);
        world.order(1, 'w', 0);
        world.cold(0, -20);
        world.must(1, true);
        world.begin(0, 60);
        Check.cannot(world, "endYear with a team on its way", () -> world.endYear());
        world.help(0);
        world.scratch(0);
        Check.same("year 1", world.endYear(), 1);
        Check.same("no plan", world.clear(1), 0);
        Check.same("no storms", world.storm(1, 0, 0, 1), 1);
        Check.same("nothing is sent", world.send(1, 1, 300), 300);
        Check.same("no lease", world.dogOf(pup, 'k'), 0);
        Check.same("no penalty", world.owed(0), 0);
        Check.same("older", world.dogOf(0, 'a'), 3);
        Check.same("the pup is older", world.dogOf(pup, 'a'), 1);
        Check.same("no dogs are hitched", world.teamOf(1, 'd'), 0);
        Check.letter("in the kennel", world.stateOf(5), 'k');
        Check.same("the cold stays", world.cold(0, 0), -20);
        Check.is("must stays", () -> world.must(1, true));
        for (int year = 2; year <= 6; year++) {
            Check.same("year", world.endYear(), year);
        }
        Check.letter("8 years old", world.stateOf(0), 'k');
        Check.same("year 7", world.endYear(), 7);
        Check.letter("9 years old", world.stateOf(0), 'o');
        Check.letter("the pup", world.stateOf(pup), 'k');
        world.endYear();
        Check.same("the retired get older", world.dogOf(0, 'a'), 10);
        Check.letter("and stay retired", world.stateOf(0), 'o');
        Check.text("no places", Check.standings(world), " places");
    }

    private static void endYearPays() {
        Gangline world = Check.begun(2, 5);
        world.purse(1019);
        for (int team : new int[] {4, 2, 0, 1}) {
            if (team != 2) {
                world.camp(team, team == 4 ? 1 : 2 + team);
            }
            finish(world, team);
        }
        world.scratch(3);
        Check.text("places", Check.standings(world), " places 2 4 0 1");
        world.endYear();
        Check.same("half", world.teamOf(2, 'e'), 509);
        Check.same("3 tenths", world.teamOf(4, 'e'), 305);
        Check.same("2 tenths", world.teamOf(0, 'e'), 203);
        Check.same("no more", world.teamOf(1, 'e'), 0);
        Check.same("the rest", world.purse(0), 2);
        Check.same("races finished", world.teamOf(1, 'f'), 1);
        Check.same("no race finished", world.teamOf(3, 'f'), 0);
        world.purse(99);
        for (int i = 0; i < 5; i++) {
            world.hitch(2, 10 + i);
        }
        world.begin(2, 60);
        finish(world, 2);
        Check.same("races as it finished", world.teamOf(2, 'f'), 2);
        world.endYear();
        Check.same("earned in all", world.teamOf(2, 'e'), 559);
        Check.same("races in all", world.teamOf(2, 'f'), 2);
        Check.same("what nobody won stays", world.purse(0), 51);
        world.endYear();
        Check.same("a year without a race", world.purse(0), 51);
        Check.same("earned then", world.teamOf(2, 'e'), 559);
    }

    private static void litter() {
        Gangline world = new Gangline();
        world.team();
        world.team();
        world.dog(0, 6, 3);
        world.dog(1, 9, 6);
        world.dog(0, 2, 0);
        world.lease(0, 1);
        Check.out(world, "litter of dog 3", () -> world.litter(3, 0));
        Check.out(world, "litter by dog 3", () -> world.litter(0, 3));
        Check.out(world, "litter of -1", () -> world.litter(-1, -1));
        Check.bad(world, "litter with itself", () -> world.litter(1, 1));
        Check.same("litter", world.litter(0, 1), 3);
        Check.same("strength is rounded up", world.dogOf(3, 's'), 8);
        Check.same("lead is rounded up", world.dogOf(3, 'l'), 5);
        Check.same("age", world.dogOf(3, 'a'), 0);
        Check.same("the mother's own kennel", world.dogOf(3, 'k'), 0);
        Check.letter("state", world.stateOf(3), 'k');
        Check.same("feet", world.dogOf(3, 'f'), 100);
        Check.cannot(world, "a second litter of the mother", () -> world.litter(0, 2));
        Check.same("the father as a mother", world.litter(1, 0), 4);
        Check.same("the father again", world.litter(2, 1), 5);
        Check.same("strength of an even mean", world.dogOf(5, 's'), 6);
        Check.same("lead of an even mean", world.dogOf(5, 'l'), 3);
        world.endYear();
        Check.same("a litter in the next year", world.litter(0, 2), 6);
        Check.same("strength of 6 and 2", world.dogOf(6, 's'), 4);
    }

    private static void litterOfKin() {
        Gangline world = new Gangline();
        world.team();
        world.dog(0, 1, 0);
        world.dog(0, 1, 0);
        world.dog(0, 8, 9);
        world.litter(0, 1);
        world.litter(1, 2);
        world.endYear();
        world.endYear();
        Check.same("strength of 1 and 8", world.dogOf(4, 's'), 5);
        Check.same("a litter of half sisters", world.litter(3, 4), 5);
        Check.same("strength of 1 and 5, 1 less", world.dogOf(5, 's'), 2);
        Check.same("lead of 0 and 5, 1 less", world.dogOf(5, 'l'), 2);
        Check.same("a litter with the mother", world.litter(0, 3), 6);
        Check.same("strength is at least 1", world.dogOf(6, 's'), 1);
        Check.same("lead is at least 0", world.dogOf(6, 'l'), 0);
        Check.same("a litter of others", world.litter(2, 3), 7);
        Check.same("strength of 8 and 1", world.dogOf(7, 's'), 5);
    }

    private static void litterBars() {
        Gangline world = Check.ready(2, 1);
        int home = world.dog(0, 5, 5);
        int other = world.dog(0, 5, 5);
        Check.same("a litter of a hitched dog", world.litter(0, home), 7);
        world.begin(0, 60);
        Check.cannot(world, "a litter of a mother in a race", () -> world.litter(1, home));
        Check.cannot(world, "a litter by a father in a race", () -> world.litter(home, 1));
        world.drop(0, 1);
        Check.same("a litter of a dropped dog", world.litter(1, home), 8);
        Check.same("a litter by a dropped dog", world.litter(home, 1), 9);
        Check.cannot(world, "a litter of a pup", () -> world.litter(9, other));
        Check.cannot(world, "a litter by a pup", () -> world.litter(other, 9));
        world.scratch(0);
        world.endYear();
        Check.cannot(world, "a litter of a dog of 1 year", () -> world.litter(9, other));
        for (int i = 0; i < 6; i++) {
            world.endYear();
        }
        Check.letter("retired", world.stateOf(other), 'o');
        Check.cannot(world, "a litter of a retired mother", () -> world.litter(other, 9));
        Check.cannot(world, "a litter by a retired father", () -> world.litter(9, other));
        Gangline dead = new Gangline();
        dead.leg(120, 0, 0);
        dead.leg(120, 0, 0);
        Check.addTeam(dead, 5, 8, 3);
        int alive = dead.dog(0, 8, 3);
        dead.begin(0, 40);
        dead.run(0);
        dead.run(0);
        Check.letter("dead", dead.stateOf(0), 'x');
        Check.cannot(dead, "a litter of a dead mother", () -> dead.litter(0, alive));
        Check.cannot(dead, "a litter by a dead father", () -> dead.litter(alive, 0));
        Check.cannot(dead, "training of a dead dog", () -> dead.train(0, 1));
    }

    private static void areKin() {
        Gangline world = new Gangline();
        world.team();
        for (int i = 0; i < 5; i++) {
            world.dog(0, 5, 5);
        }
        int first = world.litter(0, 1);
        int maternal = world.litter(1, 2);
        int paternal = world.litter(3, 2);
        world.litter(2, 0);
        world.endYear();
        world.endYear();
        int grand = world.litter(first, 4);
        Object[][] due = {{0, 0, true}, {grand, grand, true}, {0, 1, false}, {0, first, true}, {1, first, true},
            {2, first, false}, {first, maternal, true}, {maternal, paternal, true}, {first, paternal, false},
            {first, 8, true}, {grand, first, true}, {grand, 0, false}, {grand, maternal, false}, {grand, 4, true},
            {maternal, 8, true}, {3, 4, false}};
        for (Object[] row : due) {
            int one = (int) row[0];
            int two = (int) row[1];
            Check.same(one + " and " + two, world.areKin(one, two) ? 1 : 0, (boolean) row[2] ? 1 : 0);
            Check.same(two + " and " + one, world.areKin(two, one) ? 1 : 0, (boolean) row[2] ? 1 : 0);
        }
        for (int dog : new int[] {-1, 10, Integer.MAX_VALUE}) {
            Check.out(world, "areKin", () -> world.areKin(dog, 0));
            Check.out(world, "areKin with", () -> world.areKin(0, dog));
            Check.out(world, "litter", () -> world.litter(0, dog));
            Check.out(world, "train", () -> world.train(dog, 0));
        }
    }

    private static void train() {
        Gangline world = Check.ready(2, 1);
        int dog = world.dog(0, 7, 0);
        Check.bad(world, "train 0", () -> world.train(dog, 0));
        Check.bad(world, "train 101", () -> world.train(dog, 101));
        Check.same("100", world.train(dog, 100), 7);
        Check.same("199", world.train(dog, 99), 7);
        Check.same("200", world.train(dog, 1), 8);
        Check.same("300", world.train(dog, 100), 8);
        world.endYear();
        Check.same("399 over the years", world.train(dog, 99), 8);
        Check.same("401", world.train(dog, 2), 9);
        for (int i = 0; i < 4; i++) {
            Check.same("9 at most", world.train(dog, 100), 9);
        }
        int pup = world.litter(dog, 0);
        Check.same("a pup", world.train(pup, 1), world.dogOf(pup, 's'));
        for (int i = 0; i < 5; i++) {
            world.hitch(0, i);
        }
        Check.same("a hitched dog", world.train(1, 1), 8);
        world.begin(0, 60);
        Check.cannot(world, "train in a race", () -> world.train(1, 1));
        Check.bad(world, "train 0 in a race", () -> world.train(1, 0));
        world.drop(0, 1);
        Check.same("a dropped dog", world.train(1, 1), 8);
        world.scratch(0);
        for (int i = 0; i < 6; i++) {
            world.endYear();
        }
        Check.cannot(world, "train when retired", () -> world.train(1, 1));
    }

    private static void inShare() {
        Gangline world = Check.ready(2, 3);
        Check.refuses(world, "none began", ArithmeticException.class, () -> world.inShare());
        world.begin(0, 60);
        Check.number("all are in it", world.inShare(), 1.0f);
        world.begin(1, 60);
        world.drop(0, 0);
        world.drop(0, 1);
        world.drop(0, 2);
        Check.number("7 of 10", world.inShare(), 7 / 10f);
        Check.same("not the double", (double) world.inShare() == 0.7 ? 1 : 0, 0);
        world.scratch(0);
        Check.number("5 of 10", world.inShare(), 0.5f);
        finish(world, 1);
        Check.number("0 of 10", world.inShare(), 0f);
        world.endYear();
        Check.refuses(world, "none began this year", ArithmeticException.class, () -> world.inShare());
        Gangline three = Check.ready(2, 1);
        three.hitch(0, three.dog(0, 5, 5));
        three.begin(0, 0);
        three.drop(0, 1);
        three.drop(0, 2);
        three.drop(0, 3);
        three.drop(0, 4);
        Check.number("2 of 6", three.inShare(), 2f / 6f);
    }

    private static void meanFeet() {
        Gangline world = new Gangline();
        world.leg(100, 9, 0);
        world.leg(100, 9, 0);
        Check.addTeam(world, 5, 8, 0);
        Check.addTeam(world, 6, 8, 0);
        Check.refuses(world, "none in the race", ArithmeticException.class, () -> world.meanFeet());
        world.begin(0, 60);
        world.begin(1, 60);
        Check.number("feet at first", world.meanFeet(), 100.0);
        world.run(0);
        Check.number("5 with 82, 6 with 100", world.meanFeet(), 1010.0 / 11.0);
        world.drop(0, 1);
        Check.number("4 with 82, 6 with 100", world.meanFeet(), 92.8);
        world.scratch(1);
        Check.number("4 with 82", world.meanFeet(), 82.0);
        world.scratch(0);
        Check.refuses(world, "none any more", ArithmeticException.class, () -> world.meanFeet());
    }

    private static void isTrue() {
        Gangline world = Check.ready(2, 2);
        Check.is("ahead of the race", () -> world.isTrue());
        world.begin(0, 60);
        world.order(0, 'r', 0);
        world.order(0, 'l', 0);
        Check.is("with an admitted plan", () -> world.isTrue());
        world.order(0, 'l', 0);
        Check.is("with a plan that is not admitted", () -> world.isTrue());
        world.clear(0);
        finish(world, 0);
        Check.is("with a finished team", () -> world.isTrue());
        world.endYear();
        Check.is("in the next year", () -> world.isTrue());
        Gangline tired = new Gangline();
        tired.leg(120, 0, 0);
        tired.leg(120, 0, 0);
        tired.leg(120, 0, 0);
        Check.addTeam(tired, 5, 8, 0);
        tired.begin(0, 0);
        tired.run(0);
        tired.run(0);
        Check.is("a dog must stop", () -> tired.mustStop(0));
        Check.is("with an empty plan", () -> tired.isTrue());
        tired.order(0, 'c', 1);
        Check.is("with a plan behind which it must stop", () -> tired.isTrue());
    }
}
