/** The sentences with a bound of "Standings", "Purses", "Kennels", and of the promises 33 to 48. */
public final class AskedBoundsTest {
    public static void main(String[] args) {
        numbersOfTeamsAndDogs();
        lettersOfDogs();
        lettersOfTeams();
        statesOfDogs();
        racesOfTeams();
        numbersOfDogsAtTheirBounds();
        owedOnTheWay();
        owedWhenNotOnTheWay();
        placesOfStandings();
        finishedByMinutesAndPenalties();
        onTheWayByCheckpointsFirst();
        onTheWayByMinutesAndOwed();
        ofSeveralTheLowerNumber();
        estimateOnTheWay();
        purseBounds();
        purseIsSharedOut();
        purseOfFewerThanThree();
        yearEndsWithNobodyOnTheWay();
        yearsAreCounted();
        thoseAboveEightRetire();
        theDeadGetNoOlder();
        whatGoesAsAYearEnds();
        litterBounds();
        litterThrowsTheFirstListed();
        litterAges();
        litterStates();
        oneLitterAYearAsAMother();
        meansAreRoundedUp();
        kinHaveOneLess();
        kinAreParentsAndSiblings();
        trainBounds();
        trainEachTwoHundred();
        trainStates();
        shareOfThoseThatBegan();
        feetOfThoseInTheRace();
        allHolds();
        Check.end("AskedBoundsTest");
    }

    /** "if there is no such dog", "if there is no such team": ahead of all that is listed behind it. */
    private static void numbersOfTeamsAndDogs() {
        Bounds.index("dogOf", 19, Bounds::rich, (x, dog) -> x.dogOf(dog, '?'));
        Bounds.index("dogOf in range", 19, Bounds::rich, (x, dog) -> x.dogOf(dog, 'f'));
        Bounds.index("stateOf", 19, Bounds::rich, (x, dog) -> x.stateOf(dog));
        Bounds.index("mustStop", 19, Bounds::rich, (x, dog) -> x.mustStop(dog));
        Bounds.index("teamOf", 3, Bounds::rich, (x, team) -> x.teamOf(team, '?'));
        Bounds.index("teamOf in range", 3, Bounds::rich, (x, team) -> x.teamOf(team, 'm'));
        Bounds.index("raceOf", 3, Bounds::rich, (x, team) -> x.raceOf(team));
        Bounds.index("owed", 3, Bounds::rich, (x, team) -> x.owed(team));
        Bounds.index("estimate", 3, Bounds::rich, (x, team) -> x.estimate(team));
        Bounds.index("areKin", 19, Bounds::rich, (x, dog) -> x.areKin(dog, 0) ? 1 : 0);
        Bounds.index("areKin with", 19, Bounds::rich, (x, dog) -> x.areKin(0, dog) ? 1 : 0);
        Bounds.index("areKin with itself", 19, Bounds::rich, (x, dog) -> x.areKin(dog, dog) ? 1 : 0);
        Bounds.index("train", 19, Bounds::rich, (x, dog) -> x.train(dog, 0));
    }

    /** "'f' its feet, 'e' its food, ... 'p' its pull": "if there is no such thing", of all letters that there are. */
    private static void lettersOfDogs() {
        for (int letter = 0; letter <= 65535; letter++) {
            char what = (char) letter;
            Gangline world = new Gangline();
            world.team();
            world.dog(0, 5, 5);
            Check.text("dogOf " + letter + " throws", Bounds.thrownBy(world, x -> x.dogOf(0, what)),
                "fewtslakp".indexOf(what) >= 0 ? "nothing" : "IllegalArgumentException");
        }
        Bounds.refused("dogOf m", Bounds.BAD, Bounds::rich, x -> x.dogOf(0, 'm'));
        Bounds.refused("dogOf m of no dog", Bounds.OUT, Bounds::rich, x -> x.dogOf(20, 'm'));
    }

    /** "'m' its minute, 'c' its checkpoint, ... 'f' how many races it finished": of all letters that there are. */
    private static void lettersOfTeams() {
        for (int letter = 0; letter <= 65535; letter++) {
            char what = (char) letter;
            Gangline world = new Gangline();
            world.team();
            world.dog(0, 5, 5);
            Check.text("teamOf " + letter + " throws", Bounds.thrownBy(world, x -> x.teamOf(0, what)),
                "mcksbpodef".indexOf(what) >= 0 ? "nothing" : "IllegalArgumentException");
        }
        Bounds.refused("teamOf t", Bounds.BAD, Bounds::rich, x -> x.teamOf(0, 't'));
        Bounds.refused("teamOf t of no team", Bounds.OUT, Bounds::rich, x -> x.teamOf(4, 't'));
    }

    /** "'k' in the kennel, 'h' hitched, 'r' in a race, 'd' dropped, or its team came in or is out, 'x' dead, 'o'
     * retired." */
    private static void statesOfDogs() {
        Gangline world = Bounds.rich();
        Check.text("in the middle of a year", states(world), "rrrrrrrrrrrhhhhhkkkk");
        world.drop(0, 3);
        Check.text("one is dropped", states(world), "rrrdrrrrrrrhhhhhkkkk");
        world.scratch(0);
        Check.text("a team is out", states(world), "ddddddrrrrrhhhhhkkkk");
        world.scratch(1);
        world.endYear();
        Check.text("in the next year", states(world), "kkkkkkkkkkkkkkkkkkkk");
        Check.text("a team came in", states(finished(2)), "dddddrrrrr");
        Check.text("all are dead", states(dead()), "xxxxxk");
        Check.text("the old retire", states(aged(7)), "ook");
        Gangline deadLater = dead();
        deadLater.endYear();
        Check.text("the dead stay dead", states(deadLater), "xxxxxk");
    }

    private static String states(Gangline world) {
        StringBuilder all = new StringBuilder();
        for (int dog = 0; dog < Check.dogsOf(world); dog++) {
            all.append(world.stateOf(dog));
        }
        return all.toString();
    }

    /** Team 0 of so many finished, on a trail of 2 legs; the others are on their way at the first checkpoint. */
    private static Gangline finished(int teams) {
        Gangline world = Check.begun(2, teams);
        world.purse(1001);
        finish(world, 0);
        return world;
    }

    private static void finish(Gangline world, int team) {
        world.run(team);
        world.restLong(team);
        world.run(team);
        Check.letter("race", world.raceOf(team), 'f');
    }

    /** Dogs 0 to 4 are dead, dog 5 is in the kennel. */
    private static Gangline dead() {
        Gangline world = new Gangline();
        world.leg(120, 0, 0);
        world.leg(120, 0, 0);
        world.leg(5, 0, 0);
        Check.addTeam(world, 5, 8, 3);
        world.dog(0, 5, 5);
        world.begin(0, 40);
        world.run(0);
        world.run(0);
        return world;
    }

    /** Dogs 0 and 1 are 2 years and these older, dog 2 was their pup in the first one. */
    private static Gangline aged(int years) {
        Gangline world = Check.trail(2);
        world.team();
        world.dog(0, 5, 5);
        world.dog(0, 5, 5);
        world.litter(0, 1);
        for (int i = 0; i < years; i++) {
            world.endYear();
        }
        return world;
    }

    /** "'-' not begun, 'r' on its way, 'f' finished, 'x' out." */
    private static void racesOfTeams() {
        Gangline world = Check.ready(2, 4);
        for (int team = 1; team < 4; team++) {
            world.begin(team, 60);
        }
        finish(world, 2);
        world.scratch(3);
        Check.text("races", "" + world.raceOf(0) + world.raceOf(1) + world.raceOf(2) + world.raceOf(3), "-rfx");
        world.scratch(1);
        world.endYear();
        Check.text("in the next year", "" + world.raceOf(0) + world.raceOf(1) + world.raceOf(2) + world.raceOf(3),
            "----");
    }

    /** "Its feet, food and water are from 0 to 100, its trust from 0 to 9". */
    private static void numbersOfDogsAtTheirBounds() {
        Gangline world = Check.begun(2, 1);
        world.camp(0, 30);
        world.feed(0, 3);
        world.melt(0);
        Check.text("not above", numbers(world, 0), "100 100 100 9");
        Check.text("a new dog", numbers(Bounds.rich(), 17), "100 100 100 5");
        Check.text("a pup", numbers(Bounds.rich(), 19), "100 100 100 5");
        Check.text("not below", numbers(dead(), 0), "100 0 0 4");
        Check.same("no pull of the dead", dead().dogOf(0, 'p'), 0);
        Check.is("the dead must stop", () -> dead().mustStop(0));
    }

    private static String numbers(Gangline world, int dog) {
        return world.dogOf(dog, 'f') + " " + world.dogOf(dog, 'e') + " " + world.dogOf(dog, 'w') + " "
            + world.dogOf(dog, 't');
    }

    /** "its long rest, if it was not taken, and 480 for each rest of checkpoints, from its own on". */
    private static void owedOnTheWay() {
        Gangline world = Check.ready(10, 1);
        for (int checkpoint = 1; checkpoint <= 9; checkpoint++) {
            world.must(checkpoint, true);
        }
        world.begin(0, 200);
        Check.same("all of them", world.owed(0), 1440 + 9 * 480);
        world.run(0);
        Check.same("its own, too", world.owed(0), 1440 + 9 * 480);
        world.restMust(0);
        Check.same("without its own", world.owed(0), 1440 + 8 * 480);
        world.restLong(0);
        Check.same("without the long one", world.owed(0), 8 * 480);
        for (int left = 7; left >= 0; left--) {
            world.melt(0);
            world.feed(0, 1);
            world.run(0);
            Check.same("at the next one", world.owed(0), (left + 1) * 480);
            world.restMust(0);
            Check.same("behind its rest", world.owed(0), left * 480);
        }
        world.help(0);
        Check.same("with a penalty", world.owed(0), 120);
        world.melt(0);
        world.feed(0, 1);
        world.run(0);
        Check.text("at the finish", "" + world.raceOf(0) + world.owed(0), "f120");
    }

    /** "the penalties alone when it is not on its way". */
    private static void owedWhenNotOnTheWay() {
        Check.same("not begun", Check.ready(2, 1).owed(0), 0);
        Gangline world = Check.begun(2, 2);
        world.help(0);
        world.scratch(0);
        Check.same("out, helped once", world.owed(0), 120);
        world.help(1);
        world.help(1);
        Check.same("out, helped twice", world.owed(1), 240);
        world.endYear();
        Check.same("in the next year", world.owed(1), 0);
        Check.same("finished, not helped", finished(1).owed(0), 0);
    }

    /** "Throws IndexOutOfBoundsException if there is none": "Teams that are out have no place", nor have others. */
    private static void placesOfStandings() {
        Bounds.index("place without teams", -1, Gangline::new, (x, place) -> x.standing(place));
        Bounds.index("place of those not begun", -1, () -> Check.ready(2, 6), (x, place) -> x.standing(place));
        Bounds.index("place of 6", 5, () -> Check.begun(2, 6), (x, place) -> x.standing(place));
        Check.same("place 5 of 6", Check.begun(2, 6).standing(5), 5);
        Bounds.index("place of one", 0, () -> Check.begun(2, 1), (x, place) -> x.standing(place));
        Bounds.index("place of those out", -1, Bounds::halted, (x, place) -> x.standing(place));
        Bounds.index("place with 2 of 4 begun", 1, Bounds::rich, (x, place) -> x.standing(place));
        Gangline ended = finished(1);
        ended.endYear();
        Check.text("none in the next year", Check.standings(ended), " places");
    }

    /** "Those who finished come first, by minutes and penalties". */
    private static void finishedByMinutesAndPenalties() {
        Gangline world = Check.begun(2, 4);
        world.camp(0, 2);
        world.help(1);
        world.camp(2, 1);
        for (int team = 0; team < 3; team++) {
            finish(world, team);
        }
        // 120 minutes more of camping or of a penalty, 60 of camping.
        Check.text("as many minutes as penalties", Check.standings(world), " places 2 0 1 3");
        Gangline less = Check.begun(2, 3);
        less.help(0);
        less.camp(1, 3);
        finish(less, 0);
        finish(less, 1);
        Check.text("a penalty is less than 3 hours", Check.standings(less), " places 0 1 2");
        Gangline more = Check.begun(2, 3);
        more.help(0);
        more.camp(1, 1);
        finish(more, 0);
        finish(more, 1);
        Check.text("and more than 1", Check.standings(more), " places 1 0 2");
    }

    /** "then those on their way, by greater checkpoints". */
    private static void onTheWayByCheckpointsFirst() {
        Gangline world = Check.begun(4, 3);
        world.camp(2, 30);
        world.run(2);
        Check.text("one checkpoint more, much later", Check.standings(world), " places 2 0 1");
        world.run(1);
        Check.text("the same checkpoint, earlier", Check.standings(world), " places 1 2 0");
        world.run(2);
        Check.text("two checkpoints more", Check.standings(world), " places 2 1 0");
        world.help(2);
        Check.text("a penalty takes no checkpoint away", Check.standings(world), " places 2 1 0");
    }

    /** "then by minutes and what is owed": a minute decides; start differences are given back. */
    private static void onTheWayByMinutesAndOwed() {
        Gangline world = Check.begun(2, 2);
        world.melt(0);
        Check.text("45 minutes later", Check.standings(world), " places 1 0");
        world.melt(1);
        Check.text("both", Check.standings(world), " places 0 1");
        world.help(0);
        Check.text("a penalty", Check.standings(world), " places 1 0");
        Gangline rest = Check.ready(3, 2);
        rest.must(1, true);
        rest.begin(0, 60);
        rest.begin(1, 60);
        rest.run(0);
        rest.run(1);
        rest.restMust(0);
        rest.restLong(0);
        Check.text("rests that were taken count as much as those owed", Check.standings(rest), " places 0 1");
        rest.camp(0, 1);
        Check.text("an hour more does not", Check.standings(rest), " places 1 0");
    }

    /** "of several the lower number". */
    private static void ofSeveralTheLowerNumber() {
        Gangline world = Check.ready(2, 6);
        for (int team = 5; team >= 0; team--) {
            world.begin(team, 60);
        }
        Check.text("all are as late", Check.standings(world), " places 0 1 2 3 4 5");
        for (int team = 5; team >= 0; team--) {
            finish(world, team);
        }
        Check.text("all finished as late", Check.standings(world), " places 0 1 2 3 4 5");
    }

    /** "whether it can run or not"; "if it is not on its way". */
    private static void estimateOnTheWay() {
        Bounds.refused("estimate ahead of the beginning", Bounds.CANNOT, Bounds::rich, x -> x.estimate(2));
        Bounds.refused("estimate when out", Bounds.CANNOT, Bounds::halted, x -> x.estimate(0));
        Bounds.refused("estimate when finished", Bounds.CANNOT, () -> finished(1), x -> x.estimate(0));
        Bounds.refused("estimate of the dead", Bounds.CANNOT, AskedBoundsTest::dead, x -> x.estimate(0));
        Gangline world = Check.begun(2, 1);
        Check.same("with 5 dogs", world.estimate(0), 144);
        world.drop(0, 0);
        Check.same("with 4 dogs", world.estimate(0), 180);
        Check.same("without having run", world.teamOf(0, 'm'), 0);
    }

    /** "the amount, 0 to 99999". */
    private static void purseBounds() {
        Bounds.range("purse", 0, 99999, Bounds::rich, (x, amount) -> x.purse(amount));
        Gangline world = new Gangline();
        Check.same("nothing", world.purse(0), 0);
        for (int times = 1; times <= 400; times++) {
            Check.same("as much as can be", world.purse(99999), 99999L * times);
        }
    }

    /** "half, 3 tenths, 2 tenths, each cut, to the first three who finished; the rest stays for the next year's". */
    private static void purseIsSharedOut() {
        for (int amount = 0; amount <= 21; amount++) {
            Gangline world = Check.begun(2, 5);
            world.purse(amount);
            world.camp(1, 1);
            world.camp(2, 2);
            world.camp(3, 3);
            for (int team = 3; team >= 0; team--) {
                finish(world, team);
            }
            world.scratch(4);
            Check.same("the year", world.endYear(), 1);
            int half = amount / 2;
            int three = 3 * amount / 10;
            int two = 2 * amount / 10;
            Check.text("of " + amount, earned(world), half + " " + three + " " + two + " 0 0");
            Check.same("the rest of " + amount, world.purse(0), amount - half - three - two);
        }
    }

    private static String earned(Gangline world) {
        StringBuilder all = new StringBuilder();
        for (int team = 0; team < Check.teamsOf(world); team++) {
            all.append(team == 0 ? "" : " ").append(world.teamOf(team, 'e'));
        }
        return all.toString();
    }

    /** With fewer who finished, the shares of the others stay; nobody who is out gets one. */
    private static void purseOfFewerThanThree() {
        String[] due = {"0 0 0 0", "500 0 0 0", "500 300 0 0", "500 300 200 0", "500 300 200 0"};
        int[] left = {1001, 501, 201, 1, 1};
        for (int count = 0; count <= 4; count++) {
            Gangline world = Check.begun(2, 4);
            world.purse(1001);
            for (int team = 0; team < count; team++) {
                finish(world, team);
            }
            for (int team = count; team < 4; team++) {
                world.scratch(team);
            }
            world.endYear();
            Check.text("earned with " + count, earned(world), due[count]);
            Check.same("left with " + count, world.purse(0), left[count]);
            world.endYear();
            Check.text("earned a year later", earned(world), due[count]);
            Check.same("left a year later", world.purse(0), left[count]);
        }
    }

    /** "A year ends only when no team is on its way". */
    private static void yearEndsWithNobodyOnTheWay() {
        Bounds.refused("the end with two on their way", Bounds.CANNOT, Bounds::rich, x -> x.endYear());
        Bounds.refused("the end with one on its way", Bounds.CANNOT, () -> finished(2), x -> x.endYear());
        Check.same("the end with all out", Bounds.halted().endYear(), 1);
        Check.same("the end with all finished", finished(1).endYear(), 1);
        Check.same("the end with nobody begun", Check.ready(2, 3).endYear(), 1);
    }

    /** "Returns the year that begins, 1 for the first call." */
    private static void yearsAreCounted() {
        Gangline world = Check.ready(2, 1);
        for (int year = 1; year <= 100; year++) {
            Check.same("year", world.endYear(), year);
        }
        Check.same("age", world.dogOf(0, 'a'), 102);
    }

    /** "each dog that is not dead is 1 older, those above 8 retire". */
    private static void thoseAboveEightRetire() {
        Check.text("8 years", "" + aged(6).dogOf(0, 'a') + aged(6).stateOf(0), "8k");
        Check.text("9 years", "" + aged(7).dogOf(0, 'a') + aged(7).stateOf(0), "9o");
        Check.text("10 years", "" + aged(8).dogOf(0, 'a') + aged(8).stateOf(0), "10o");
        Check.text("the pup of 8", "" + aged(8).dogOf(2, 'a') + aged(8).stateOf(2), "8k");
        Check.text("the pup of 9", "" + aged(9).dogOf(2, 'a') + aged(9).stateOf(2), "9o");
    }

    /** "each dog that is not dead". */
    private static void theDeadGetNoOlder() {
        Gangline world = dead();
        for (int year = 0; year < 9; year++) {
            world.endYear();
        }
        Check.text("the dead", "" + world.dogOf(0, 'a') + world.stateOf(0), "2x");
        Check.text("the other one", "" + world.dogOf(5, 'a') + world.stateOf(5), "11o");
    }

    /** "leases, plans, storms, and what was sent, go; all dogs are in their kennels again". */
    private static void whatGoesAsAYearEnds() {
        Gangline world = Bounds.halted();
        char why = world.why(0);
        world.endYear();
        Check.same("the lease", world.dogOf(18, 'k'), 3);
        Check.same("the plan", world.clear(0), 0);
        Check.same("the plan of one that had not begun", world.clear(2), 0);
        Check.same("the storms", world.storm(0, 0, 0, 1), 1);
        Check.same("what was sent", world.send(0, 1, 300), 300);
        Check.letter("why stays", world.why(0), why);
        Check.same("the penalty", world.owed(1), 0);
        Check.is("a rest stays", () -> world.must(2, true));
        Check.same("the cold stays", world.cold(1, 0), -35);
        Gangline storm = Check.ready(2, 1);
        storm.storm(0, 0, 9999, 9);
        storm.endYear();
        for (int dog = 0; dog < 5; dog++) {
            storm.hitch(0, dog);
        }
        storm.begin(0, 60);
        Check.same("no storm is on the leg", storm.run(0), 144);
    }

    /** "if there is no such dog, for either". */
    private static void litterBounds() {
        Bounds.index("litter of", 19, Bounds::rich, (x, dog) -> x.litter(dog, 16));
        Bounds.index("litter by", 19, Bounds::rich, (x, dog) -> x.litter(18, dog));
        Bounds.index("litter of and by", 19, Bounds::rich, (x, dog) -> x.litter(dog, dog));
        Check.same("litter of the last two that can", Bounds.rich().litter(18, 17), 20);
    }

    /** "If several exceptions apply, the exception listed first is thrown": for litter. */
    private static void litterThrowsTheFirstListed() {
        Bounds.refused("no father, a mother in a race", Bounds.OUT, Bounds::rich, x -> x.litter(0, 20));
        Bounds.refused("no mother, a father in a race", Bounds.OUT, Bounds::rich, x -> x.litter(20, 0));
        Bounds.refused("no father, 40 dogs", Bounds.OUT, () -> dogs(40), x -> x.litter(0, 40));
        Bounds.refused("the same dog", Bounds.BAD, Bounds::rich, x -> x.litter(18, 18));
        Bounds.refused("the same dog, in a race", Bounds.BAD, Bounds::rich, x -> x.litter(0, 0));
        Bounds.refused("the same dog, 40 dogs", Bounds.BAD, () -> dogs(40), x -> x.litter(0, 0));
        Bounds.refused("a pup, 40 dogs", Bounds.CANNOT, () -> withPup(40), x -> x.litter(39, 2));
        Bounds.refused("the second litter, 40 dogs", Bounds.CANNOT, () -> withPup(40), x -> x.litter(0, 2));
        Bounds.refused("40 dogs", Bounds.FULL, () -> dogs(40), x -> x.litter(0, 1));
        Check.same("39 dogs", dogs(39).litter(0, 1), 39);
        Check.same("39 dogs and a pup of them", withPup(39).litter(1, 2), 39);
    }

    private static Gangline dogs(int count) {
        Gangline world = new Gangline();
        world.team();
        for (int i = 0; i < count; i++) {
            world.dog(0, 5, 5);
        }
        return world;
    }

    /** So many dogs, the last one a pup of dogs 0 and 1. */
    private static Gangline withPup(int count) {
        Gangline world = dogs(count - 1);
        world.litter(0, 1);
        return world;
    }

    /** "of the age 2 or more, not retired": 1 and 9 are not, 2 and 8 are. */
    private static void litterAges() {
        Bounds.refused("a mother of 0", Bounds.CANNOT, () -> bred(0), x -> x.litter(2, 3));
        Bounds.refused("a father of 0", Bounds.CANNOT, () -> bred(0), x -> x.litter(3, 2));
        Bounds.refused("a mother of 1", Bounds.CANNOT, () -> bred(1), x -> x.litter(2, 3));
        Bounds.refused("a father of 1", Bounds.CANNOT, () -> bred(1), x -> x.litter(3, 2));
        Check.same("a mother of 2", bred(2).litter(2, 3), 4);
        Check.same("a father of 2", bred(2).litter(3, 2), 4);
        Check.same("a mother of 8", bred(8).litter(2, 3), 4);
        Check.same("a father of 8", bred(8).litter(3, 2), 4);
        Bounds.refused("a mother of 9", Bounds.CANNOT, () -> bred(9), x -> x.litter(2, 3));
        Bounds.refused("a father of 9", Bounds.CANNOT, () -> bred(9), x -> x.litter(3, 2));
    }

    /** Dog 2 is a pup and so many years old, dog 3 was added then, of the age 2. */
    private static Gangline bred(int years) {
        Gangline world = aged(years);
        world.dog(0, 5, 5);
        Check.same("age", world.dogOf(2, 'a'), years);
        return world;
    }

    /** "not retired, dead or in a race, perhaps hitched or dropped". */
    private static void litterStates() {
        Bounds.refused("a mother in a race", Bounds.CANNOT, Bounds::rich, x -> x.litter(0, 18));
        Bounds.refused("a father in a race", Bounds.CANNOT, Bounds::rich, x -> x.litter(18, 0));
        Bounds.refused("a dead mother", Bounds.CANNOT, () -> withOther(), x -> x.litter(0, 5));
        Bounds.refused("a dead father", Bounds.CANNOT, () -> withOther(), x -> x.litter(5, 0));
        Check.same("two that live", withOther().litter(5, 6), 7);
        Check.same("a hitched mother", Bounds.rich().litter(11, 18), 20);
        Check.same("a hitched father", Bounds.rich().litter(18, 11), 20);
        Check.same("a mother whose team is out", Bounds.halted().litter(0, 18), 20);
        Check.same("a father whose team is out", Bounds.halted().litter(18, 0), 20);
        Gangline dropped = Bounds.rich();
        dropped.drop(0, 4);
        Check.same("a dropped mother", dropped.litter(4, 18), 20);
        Check.same("a dropped father", dropped.litter(18, 4), 21);
        Check.same("a hitched one stays so", dropped.stateOf(11), 'h');
    }

    private static Gangline withOther() {
        Gangline world = dead();
        world.dog(0, 5, 5);
        return world;
    }

    /** "a dog has at most one litter a year as a mother". */
    private static void oneLitterAYearAsAMother() {
        Bounds.refused("the second one", Bounds.CANNOT, () -> withPup(6), x -> x.litter(0, 2));
        Bounds.refused("the second one by the same father", Bounds.CANNOT, () -> withPup(6), x -> x.litter(0, 1));
        Check.same("the father as a mother", withPup(6).litter(1, 0), 6);
        Check.same("the father again", withPup(6).litter(2, 1), 6);
        Check.same("the mother as a father", withPup(6).litter(2, 0), 6);
        Gangline later = withPup(6);
        later.endYear();
        Check.same("in the next year", later.litter(0, 1), 6);
        Check.text("and once in it", Bounds.thrownBy(later, x -> x.litter(0, 1)), "UnsupportedOperationException");
    }

    /** "the means of theirs, rounded up": of all strengths and leads. */
    private static void meansAreRoundedUp() {
        for (int one = 0; one <= 9; one++) {
            for (int two = 0; two <= 9; two++) {
                Gangline world = new Gangline();
                world.team();
                world.dog(0, Math.max(1, one), one);
                world.dog(0, Math.max(1, two), two);
                world.litter(0, 1);
                Check.same("lead of " + one + " and " + two, world.dogOf(2, 'l'), (int) Math.ceil((one + two) / 2.0));
                Check.same("strength of " + one + " and " + two, world.dogOf(2, 's'),
                    (int) Math.ceil((Math.max(1, one) + Math.max(1, two)) / 2.0));
                Check.same("age", world.dogOf(2, 'a'), 0);
            }
        }
    }

    /** "1 less, at least 1 and 0, if they are kin". */
    private static void kinHaveOneLess() {
        Check.text("of 1 and 0 with 1 and 0", kinOf(1, 0, 1, 0), "1 0");
        Check.text("of 1 and 0 with 1 and 1", kinOf(1, 0, 1, 1), "1 0");
        Check.text("of 1 and 1 with 2 and 2", kinOf(1, 1, 2, 2), "1 1");
        Check.text("of 2 and 2 with 3 and 4", kinOf(2, 2, 3, 4), "2 2");
        Check.text("of 9 and 9 with 9 and 9", kinOf(9, 9, 9, 9), "8 8");
    }

    /** Strength and lead of a pup by a dog of these and its own pup by another one of the others. */
    private static String kinOf(int strength, int lead, int otherStrength, int otherLead) {
        Gangline world = new Gangline();
        world.team();
        world.dog(0, strength, lead);
        world.dog(0, otherStrength, otherLead);
        world.litter(1, 0);
        world.endYear();
        world.endYear();
        world.litter(0, 2);
        return world.dogOf(3, 's') + " " + world.dogOf(3, 'l');
    }

    /** "one is the parent of the other, or they have a parent in common"; "each is its own". */
    private static void kinAreParentsAndSiblings() {
        Gangline world = dogs(5);
        int[] pups = {world.litter(0, 1), world.litter(1, 2), world.litter(2, 0), world.litter(3, 2)};
        world.endYear();
        world.endYear();
        int grand = world.litter(pups[0], 4);
        kin(world, true, 0, 0);
        kin(world, false, 0, 1);
        kin(world, false, 3, 4);
        kin(world, true, 0, pups[0]);
        kin(world, true, 1, pups[0]);
        kin(world, false, 2, pups[0]);
        kin(world, true, pups[0], pups[1]);
        kin(world, true, pups[0], pups[2]);
        kin(world, true, pups[1], pups[2]);
        kin(world, true, pups[1], pups[3]);
        kin(world, true, pups[2], pups[3]);
        kin(world, false, pups[0], pups[3]);
        kin(world, true, pups[0], grand);
        kin(world, true, 4, grand);
        kin(world, false, 0, grand);
        kin(world, false, pups[1], grand);
        kin(world, true, grand, grand);
    }

    private static void kin(Gangline world, boolean due, int dog, int other) {
        Check.same(dog + " and " + other, world.areKin(dog, other) ? 1 : 0, due ? 1 : 0);
        Check.same(other + " and " + dog, world.areKin(other, dog) ? 1 : 0, due ? 1 : 0);
    }

    /** "how many, 1 to 100". */
    private static void trainBounds() {
        Bounds.range("train", 1, 100, Bounds::rich, (x, kilometres) -> x.train(17, kilometres));
        Bounds.refused("train no dog for 0", Bounds.OUT, Bounds::rich, x -> x.train(20, 0));
        Bounds.refused("train a dog in a race for 0", Bounds.BAD, Bounds::rich, x -> x.train(0, 0));
        Bounds.refused("train a dead dog for 101", Bounds.BAD, AskedBoundsTest::dead, x -> x.train(0, 101));
        Bounds.refused("train a retired dog for 0", Bounds.BAD, () -> aged(7), x -> x.train(0, 0));
    }

    /** "its strength 1 more for each 200 in all, 9 at most". */
    private static void trainEachTwoHundred() {
        Gangline world = new Gangline();
        world.team();
        world.dog(0, 1, 0);
        world.dog(0, 5, 0);
        for (int kilometres = 1; kilometres <= 200; kilometres++) {
            Check.same("one by one, " + kilometres, world.train(0, 1), kilometres < 200 ? 1 : 2);
        }
        for (int hundreds = 3; hundreds <= 24; hundreds++) {
            Check.same(hundreds + " hundred", world.train(0, 100), Math.min(9, 1 + hundreds / 2));
        }
        Check.same("100", world.train(1, 100), 5);
        Check.same("199", world.train(1, 99), 5);
        Check.same("299", world.train(1, 100), 6);
        Check.same("399", world.train(1, 100), 6);
        Check.same("400", world.train(1, 1), 7);
        Gangline strong = new Gangline();
        strong.team();
        strong.dog(0, 9, 0);
        strong.train(0, 100);
        Check.same("9 at most", strong.train(0, 100), 9);
        Check.same("the pull of 9", strong.dogOf(0, 'p'), 45);
        Gangline years = new Gangline();
        years.team();
        years.dog(0, 5, 0);
        years.train(0, 100);
        years.endYear();
        Check.same("in all, over the years", years.train(0, 100), 6);
    }

    /** "if it is retired, dead or in a race": hitched or dropped ones, and pups, can be trained. */
    private static void trainStates() {
        Bounds.refused("train in a race", Bounds.CANNOT, Bounds::rich, x -> x.train(0, 1));
        Bounds.refused("train a dead dog", Bounds.CANNOT, AskedBoundsTest::dead, x -> x.train(0, 1));
        Bounds.refused("train a retired dog", Bounds.CANNOT, () -> aged(7), x -> x.train(0, 1));
        Check.same("train at 8 years", aged(6).train(0, 1), 5);
        Check.same("train a hitched dog", Bounds.rich().train(11, 1), 9);
        Check.same("train a pup", Bounds.rich().train(19, 1), 5);
        Check.same("train one whose team is out", Bounds.halted().train(0, 1), 8);
        Gangline dropped = Bounds.rich();
        dropped.drop(0, 2);
        Check.same("train a dropped dog", dropped.train(2, 1), 8);
    }

    /** "divided by that of all that began, both converted to float": "if none began". */
    private static void shareOfThoseThatBegan() {
        Bounds.refused("share with none begun", Bounds.NO_NUMBER, () -> Check.ready(2, 2), x -> x.inShare());
        Gangline ended = Bounds.halted();
        Check.number("all are out", ended.inShare(), 0f);
        ended.endYear();
        Check.text("share of the next year throws", Bounds.thrownBy(ended, x -> x.inShare()), "ArithmeticException");
        Gangline world = Check.begun(2, 3);
        Check.number("15 of 15", world.inShare(), 15f / 15f);
        for (int left = 14; left >= 10; left--) {
            world.drop(0, left - 10);
            Check.number(left + " of 15", world.inShare(), (float) left / (float) 15);
        }
        world.scratch(1);
        Check.number("5 of 15", world.inShare(), 5f / 15f);
        finish(world, 2);
        Check.number("0 of 15", world.inShare(), 0f);
        for (int dog = 0; dog < 6; dog++) {
            ended.hitch(0, dog);
        }
        ended.begin(0, 60);
        Check.number("6 of 6 of the next year", ended.inShare(), 1f);
    }

    /** "the sum divided by their number, both converted to double": "if there are none". */
    private static void feetOfThoseInTheRace() {
        Bounds.refused("feet with none begun", Bounds.NO_NUMBER, () -> Check.ready(2, 2), x -> x.meanFeet());
        Bounds.refused("feet with all out", Bounds.NO_NUMBER, Bounds::halted, x -> x.meanFeet());
        Bounds.refused("feet with all finished", Bounds.NO_NUMBER, () -> finished(1), x -> x.meanFeet());
        Gangline world = new Gangline();
        world.leg(100, 9, 0);
        world.leg(100, 9, 0);
        Check.addTeam(world, 6, 8, 3);
        Check.addTeam(world, 5, 8, 3);
        world.begin(0, 60);
        Check.number("at first", world.meanFeet(), 100.0);
        world.begin(1, 60);
        world.run(0);
        Check.number("6 of 82, 5 of 100", world.meanFeet(), 992.0 / 11.0);
        for (int dog = 0; dog < 5; dog++) {
            world.drop(0, dog);
        }
        Check.number("1 of 82, 5 of 100", world.meanFeet(), 582.0 / 6.0);
        world.scratch(1);
        Check.number("1 of 82", world.meanFeet(), 82.0);
        world.drop(0, 5);
        Check.text("none throws", Bounds.thrownBy(world, x -> x.meanFeet()), "ArithmeticException");
    }

    /** "Returns whether all of it holds": in worlds at their bounds. */
    private static void allHolds() {
        Bounds.Maker[] makers = {Gangline::new, Bounds::rich, Bounds::halted, () -> finished(6), AskedBoundsTest::dead,
            () -> aged(9), () -> dogs(40), () -> withPup(40), () -> Check.begun(10, 6)};
        for (int i = 0; i < makers.length; i++) {
            Gangline world = makers[i].make();
            Check.is("isTrue " + i, () -> world.isTrue());
            Check.is("isTrue again " + i, () -> world.isTrue());
        }
        Gangline plan = Check.begun(2, 1);
        plan.order(0, 'r', 0);
        String before = Check.stateOf(plan, true);
        Check.is("isTrue with a plan", () -> plan.isTrue());
        Check.text("nothing of it is done", Check.stateOf(plan, true), before);
    }
}
