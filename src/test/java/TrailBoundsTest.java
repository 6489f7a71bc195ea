/** The sentences with a bound of "Trail", "Dogs" and "Teams", and of the promises 1 to 11. */
public final class TrailBoundsTest {
    public static void main(String[] args) {
        newWorldIsEmpty();
        tenLegs();
        rangesOfLeg();
        legsOnlyWhileNoTeamIsOnItsWay();
        legThrowsTheFirstListed();
        coldOfALeg();
        coldWarmerAndColder();
        twelveStorms();
        rangesOfStorm();
        hoursOfStormAreIncluded();
        strongestStormCounts();
        storms();
        mustBetweenFirstAndFinish();
        mustOnlyWhileNoTeamIsOnItsWay();
        sixTeams();
        fortyDogs();
        rangesOfDog();
        dogThrowsTheFirstListed();
        leaseBounds();
        leaseStates();
        hitchBounds();
        hitchStates();
        hitchAges();
        fiveToFourteenDogs();
        leadersAreTheFirstTwoLeft();
        sendBounds();
        sendThreeHundredInAll();
        sendThrowsTheFirstListed();
        beginBounds();
        beginAtTwiceTheTeamsAhead();
        beginThrowsTheFirstListed();
        beginAheadOfALongRest();
        numbersAheadOfTheBeginning();
        Check.end("TrailBoundsTest");
    }

    private static Gangline legs(int count) {
        return Check.trail(count);
    }

    /** "Creates a world without legs, dogs and teams, with an empty purse." */
    private static void newWorldIsEmpty() {
        Bounds.index("leg of a new world", -1, Gangline::new, (x, leg) -> x.cold(leg, 0));
        Bounds.index("team of a new world", -1, Gangline::new, (x, team) -> x.raceOf(team));
        Bounds.index("dog of a new world", -1, Gangline::new, (x, dog) -> x.stateOf(dog));
        Bounds.index("place of a new world", -1, Gangline::new, (x, place) -> x.standing(place));
        Bounds.refused("share of a new world", Bounds.NO_NUMBER, Gangline::new, x -> x.inShare());
        Bounds.refused("feet of a new world", Bounds.NO_NUMBER, Gangline::new, x -> x.meanFeet());
        Check.same("purse of a new world", new Gangline().purse(0), 0);
        Check.is("isTrue of a new world", () -> new Gangline().isTrue());
        Check.same("year of a new world", new Gangline().endYear(), 1);
    }

    /** "At most 10 legs are numbered from 0": "if there are 10". */
    private static void tenLegs() {
        Gangline world = new Gangline();
        for (int i = 0; i < 10; i++) {
            Check.same("leg " + i, world.leg(5 + i, 0, 0), i);
        }
        Bounds.refused("leg 10", Bounds.FULL, () -> legs(10), x -> x.leg(5, 0, 0));
        Check.same("cold of leg 9", legs(10).cold(9, 0), -10);
        Bounds.index("cold of leg", 9, () -> legs(10), (x, leg) -> x.cold(leg, 0));
    }

    /** "length: 5 to 120", "surface: 0 to 9", "climb: -9 to 9". */
    private static void rangesOfLeg() {
        Bounds.range("length", 5, 120, Bounds::halted, (x, number) -> x.leg(number, 0, 0));
        Bounds.range("surface", 0, 9, Bounds::halted, (x, number) -> x.leg(5, number, 0));
        Bounds.range("climb", -9, 9, Bounds::halted, (x, number) -> x.leg(5, 0, number));
        Check.same("the shortest leg", minutesOn(5, 0, 0), 5 * 5 * 60 / 200);
        Check.same("the longest leg", minutesOn(120, 0, 0), 120 * 5 * 60 / 200);
        Check.same("the best surface", minutesOn(100, 0, 0), 100 * 5 * 60 / 200);
        Check.same("the worst surface", minutesOn(100, 9, 0), 100 * 14 * 60 / 200);
        Check.same("the steepest climb", minutesOn(100, 0, 9), 100 * 14 * 60 / 200);
        Check.same("a climb of 1", minutesOn(100, 0, 1), 100 * 6 * 60 / 200);
        Check.same("a climb of 0", minutesOn(100, 0, 0), 100 * 5 * 60 / 200);
        Check.same("a climb of -1 counts as none", minutesOn(100, 0, -1), 100 * 5 * 60 / 200);
        Check.same("the steepest way down counts as none", minutesOn(100, 0, -9), 100 * 5 * 60 / 200);
    }

    private static int minutesOn(int length, int surface, int climb) {
        Gangline world = new Gangline();
        world.leg(length, surface, climb);
        Check.addTeam(world, 5, 8, 3);
        world.begin(0, 0);
        return world.estimate(0);
    }

    /** "Legs and these rests are told only while no team is on its way": for leg. */
    private static void legsOnlyWhileNoTeamIsOnItsWay() {
        Check.same("leg ahead of the beginning", Check.ready(2, 1).leg(5, 0, 0), 2);
        Bounds.refused("leg with a team on its way", Bounds.CANNOT, () -> Check.begun(2, 1), x -> x.leg(5, 0, 0));
        Bounds.refused("leg with one of many on its way", Bounds.CANNOT, () -> oneOfTwoFinished(), x -> x.leg(5, 0, 0));
        Gangline out = Check.begun(2, 1);
        out.scratch(0);
        Check.same("leg with a team that is out", out.leg(5, 0, 0), 2);
        Gangline finished = oneOfTwoFinished();
        finished.scratch(1);
        Check.same("leg with a team that finished", finished.leg(5, 0, 0), 2);
        Check.letter("which stays finished", finished.raceOf(0), 'f');
    }

    private static Gangline oneOfTwoFinished() {
        Gangline world = Check.begun(2, 2);
        world.run(0);
        world.restLong(0);
        world.run(0);
        return world;
    }

    /** "If several exceptions apply, the exception listed first is thrown": for leg. */
    private static void legThrowsTheFirstListed() {
        Bounds.refused("a bad 11th leg, on the way", Bounds.BAD, () -> Check.begun(10, 1), x -> x.leg(4, 0, 0));
        Bounds.refused("a bad leg, on the way", Bounds.BAD, () -> Check.begun(2, 1), x -> x.leg(5, 10, 0));
        Bounds.refused("a bad 11th leg", Bounds.BAD, () -> legs(10), x -> x.leg(5, 0, -10));
        Bounds.refused("an 11th leg, on the way", Bounds.CANNOT, () -> Check.begun(10, 1), x -> x.leg(5, 0, 0));
    }

    /** "The cold of a leg is in degrees, -10 at first"; "the degrees, -60 to 20". */
    private static void coldOfALeg() {
        Check.same("cold at first", legs(1).cold(0, 20), -10);
        Bounds.range("degrees", -60, 20, Bounds::rich, (x, number) -> x.cold(0, number));
        Bounds.index("cold of leg", 4, Bounds::rich, (x, leg) -> x.cold(leg, 0));
        Bounds.refused("bad cold of no leg", Bounds.OUT, Bounds::rich, x -> x.cold(5, 21));
        Gangline world = legs(2);
        world.cold(1, -60);
        Check.same("the coldest", world.cold(1, 20), -60);
        Check.same("the warmest", world.cold(1, 0), 20);
        Check.same("no degrees", world.cold(1, 0), 0);
    }

    /** "if it is warmer than -5 degrees": -4 is, -5 is not. "if it is colder than -30": -31 is, -30 is not. */
    private static void coldWarmerAndColder() {
        Check.text("at 20", waterAndFeetAt(20), "40 100");
        Check.text("at -4", waterAndFeetAt(-4), "40 100");
        Check.text("at -5", waterAndFeetAt(-5), "60 100");
        Check.text("at -6", waterAndFeetAt(-6), "60 100");
        Check.text("at -29", waterAndFeetAt(-29), "60 100");
        Check.text("at -30", waterAndFeetAt(-30), "60 100");
        Check.text("at -31", waterAndFeetAt(-31), "60 95");
        Check.text("at -60", waterAndFeetAt(-60), "60 95");
    }

    private static String waterAndFeetAt(int degrees) {
        Gangline world = new Gangline();
        world.leg(80, 0, 0);
        world.cold(0, degrees);
        Check.addTeam(world, 5, 8, 3);
        world.begin(0, 0);
        world.run(0);
        return world.dogOf(0, 'w') + " " + world.dogOf(0, 'f');
    }

    /** "At most 12 storms are told": "if there are 12"; "storms ... go" as a year ends. */
    private static void twelveStorms() {
        Gangline world = legs(1);
        for (int i = 1; i <= 12; i++) {
            Check.same("storm " + i, world.storm(0, 0, 9999, 1), i);
        }
        Bounds.refused("storm 13", Bounds.FULL, TrailBoundsTest::allStorms, x -> x.storm(0, 0, 0, 1));
        Gangline later = allStorms();
        later.endYear();
        Check.same("the first storm of the next year", later.storm(0, 0, 0, 1), 1);
    }

    private static Gangline allStorms() {
        Gangline world = legs(1);
        for (int i = 0; i < 12; i++) {
            world.storm(0, i, i, 1);
        }
        return world;
    }

    /** "from: 0 to 9999", "to: not less, to 9999", "strength: 1 to 9". */
    private static void rangesOfStorm() {
        Bounds.range("first hour", 0, 9999, Bounds::rich, (x, number) -> x.storm(0, number, 9999, 1));
        Bounds.range("last hour", 0, 9999, Bounds::rich, (x, number) -> x.storm(0, 0, number, 1));
        Bounds.range("last hour behind 500", 500, 9999, Bounds::rich, (x, number) -> x.storm(0, 500, number, 1));
        Bounds.range("strength of a storm", 1, 9, Bounds::rich, (x, number) -> x.storm(0, 0, 0, number));
        Bounds.index("leg of a storm", 4, Bounds::rich, (x, leg) -> x.storm(leg, 0, 0, 1));
        Check.same("from as the last hour that is", legs(1).storm(0, 9999, 9999, 9), 1);
        Bounds.refused("bad storm on no leg", Bounds.OUT, Bounds::rich, x -> x.storm(5, -1, 0, 0));
        Bounds.refused("storm 13 on no leg", Bounds.OUT, TrailBoundsTest::allStorms, x -> x.storm(1, 0, 0, 1));
        Bounds.refused("storm 13 of 10", Bounds.BAD, TrailBoundsTest::allStorms, x -> x.storm(0, 0, 0, 10));
        Bounds.refused("storm 13 to less", Bounds.BAD, TrailBoundsTest::allStorms, x -> x.storm(0, 8, 7, 1));
    }

    /** "in hours from one to another one, both included"; "in the hour of its minutes divided by 60, cut". */
    private static void hoursOfStormAreIncluded() {
        Check.same("in the hour ahead of it", strengthAt(2, 3, 1), 0);
        Check.same("in its first hour", strengthAt(2, 3, 2), 1);
        Check.same("in its last hour", strengthAt(2, 3, 3), 1);
        Check.same("in the hour behind it", strengthAt(2, 3, 4), 0);
        Check.same("a storm of one hour, ahead", strengthAt(3, 3, 2), 0);
        Check.same("a storm of one hour", strengthAt(3, 3, 3), 1);
        Check.same("a storm of one hour, behind", strengthAt(3, 3, 4), 0);
        Check.same("a storm in the hour 0", strengthAt(0, 0, 0), 1);
        Gangline minutes = Check.begun(2, 1);
        minutes.storm(0, 1, 2, 1);
        // Each melting takes 45 minutes: 0, 45, 90, 135, 180 minutes are in the hours 0, 0, 1, 2, 3.
        for (int due : new int[] {144, 144, 168, 168, 144}) {
            Check.same("minute " + minutes.teamOf(0, 'm'), minutes.estimate(0), due);
            minutes.melt(0);
        }
    }

    /** 1 if a storm in these hours is on the leg behind so many hours of camping. */
    private static int strengthAt(int from, int to, int hours) {
        Gangline world = Check.begun(2, 1);
        world.storm(0, from, to, 1);
        if (hours > 0) {
            world.camp(0, hours);
        }
        return (world.estimate(0) - 144) / 24;
    }

    /** "the strongest one that is on a leg in an hour counts". */
    private static void strongestStormCounts() {
        Gangline world = Check.begun(2, 1);
        world.storm(0, 0, 9, 2);
        world.storm(0, 0, 9, 3);
        world.storm(0, 0, 9, 1);
        Check.same("the strongest of three, not their sum", world.estimate(0), 40 * 9 * 120 / 200);
        world.storm(1, 0, 9, 8);
        Check.same("not that of another leg", world.estimate(0), 40 * 9 * 120 / 200);
        world.storm(0, 1, 9, 8);
        Check.same("not that of another hour", world.estimate(0), 40 * 9 * 120 / 200);
        world.camp(0, 1);
        Check.same("that of its hour", world.estimate(0), 40 * 14 * 120 / 200 + 15 * 5);
    }

    /** A storm can be told while a team is on its way. */
    private static void storms() {
        Check.same("storm on the way", Check.begun(2, 1).storm(1, 0, 0, 1), 1);
        Check.same("cold on the way", Check.begun(2, 1).cold(1, 0), -10);
    }

    /** "A checkpoint, but the first one and the finish"; "the checkpoint, from 1, ahead of the finish". */
    private static void mustBetweenFirstAndFinish() {
        Bounds.index("must without legs", -1, Gangline::new, (x, checkpoint) -> x.must(checkpoint, true));
        Bounds.refused("must at 0 of 1 leg", Bounds.OUT, () -> legs(1), x -> x.must(0, true));
        Bounds.refused("must at the finish of 1 leg", Bounds.OUT, () -> legs(1), x -> x.must(1, true));
        Bounds.refused("must at 0 of 2 legs", Bounds.OUT, () -> legs(2), x -> x.must(0, false));
        Check.isNot("must at 1 of 2 legs", () -> legs(2).must(1, true));
        Bounds.refused("must at the finish of 2 legs", Bounds.OUT, () -> legs(2), x -> x.must(2, true));
        Bounds.refused("must at 0 of 10 legs", Bounds.OUT, () -> legs(10), x -> x.must(0, true));
        Check.isNot("must at 1 of 10 legs", () -> legs(10).must(1, true));
        Check.isNot("must at 9 of 10 legs", () -> legs(10).must(9, true));
        Bounds.index("must of 10 legs at", 9, () -> legs(10), (x, checkpoint) -> x.must(checkpoint, true));
    }

    /** "Legs and these rests are told only while no team is on its way": for must; nothing is listed ahead of it but
     * the checkpoint. */
    private static void mustOnlyWhileNoTeamIsOnItsWay() {
        Bounds.refused("must on the way", Bounds.CANNOT, Bounds::rich, x -> x.must(1, true));
        Bounds.refused("must taken away on the way", Bounds.CANNOT, Bounds::rich, x -> x.must(2, false));
        Bounds.refused("must with one of two finished", Bounds.CANNOT, TrailBoundsTest::oneOfTwoFinished,
            x -> x.must(1, true));
        Bounds.refused("must at no checkpoint, on the way", Bounds.OUT, Bounds::rich, x -> x.must(5, true));
        Bounds.refused("must at the first one, on the way", Bounds.OUT, Bounds::rich, x -> x.must(0, true));
        Check.is("must with teams that are out", () -> Bounds.halted().must(2, false));
        Gangline finished = oneOfTwoFinished();
        finished.scratch(1);
        Check.isNot("must with a team that finished", () -> finished.must(1, true));
    }

    /** "At most 6 teams are numbered from 0": "if there are 6". */
    private static void sixTeams() {
        Gangline world = new Gangline();
        for (int i = 0; i < 6; i++) {
            Check.same("team " + i, world.team(), i);
        }
        Bounds.refused("team 6", Bounds.FULL, TrailBoundsTest::allTeams, x -> x.team());
        Check.letter("race of team 5", allTeams().raceOf(5), '-');
        Bounds.index("race of team", 5, TrailBoundsTest::allTeams, (x, team) -> x.raceOf(team));
        Check.same("a team with others on their way", Bounds.rich().team(), 4);
    }

    private static Gangline allTeams() {
        Gangline world = new Gangline();
        for (int i = 0; i < 6; i++) {
            world.team();
        }
        return world;
    }

    /** "At most 40 dogs are numbered from 0": "if there are 40". */
    private static void fortyDogs() {
        Gangline world = new Gangline();
        world.team();
        for (int i = 0; i < 40; i++) {
            Check.same("dog " + i, world.dog(0, 5, 5), i);
        }
        Bounds.refused("dog 40", Bounds.FULL, () -> dogs(40), x -> x.dog(0, 5, 5));
        Bounds.index("state of dog", 39, () -> dogs(40), (x, dog) -> x.stateOf(dog));
        Check.letter("state of dog 39", dogs(40).stateOf(39), 'k');
        Check.same("a pup as dog 39", dogs(39).litter(0, 1), 39);
        Bounds.refused("a pup as dog 40", Bounds.FULL, () -> dogs(40), x -> x.litter(0, 1));
        Gangline pup = dogs(39);
        pup.litter(0, 1);
        Check.text("a dog behind the last pup throws", Bounds.thrownBy(pup, x -> x.dog(0, 5, 5)),
            "IllegalStateException");
    }

    private static Gangline dogs(int count) {
        Gangline world = new Gangline();
        world.team();
        for (int i = 0; i < count; i++) {
            world.dog(0, 5, 5);
        }
        return world;
    }

    /** "strength: 1 to 9", "lead: 0 to 9"; "Adds a dog to a kennel, of the age 2". */
    private static void rangesOfDog() {
        Bounds.range("strength", 1, 9, Bounds::rich, (x, number) -> x.dog(0, number, 5));
        Bounds.range("lead", 0, 9, Bounds::rich, (x, number) -> x.dog(0, 5, number));
        Bounds.index("team of a dog", 3, Bounds::rich, (x, team) -> x.dog(team, 5, 5));
        Gangline world = new Gangline();
        world.team();
        world.dog(0, 1, 9);
        world.dog(0, 9, 0);
        Check.same("the weakest", world.dogOf(0, 's'), 1);
        Check.same("the strongest", world.dogOf(1, 's'), 9);
        Check.same("the best lead", world.dogOf(0, 'l'), 9);
        Check.same("no lead", world.dogOf(1, 'l'), 0);
        Check.same("the age", world.dogOf(1, 'a'), 2);
    }

    /** "If several exceptions apply, the exception listed first is thrown": for dog. */
    private static void dogThrowsTheFirstListed() {
        Bounds.refused("bad dog of no team", Bounds.OUT, Bounds::rich, x -> x.dog(4, 0, 10));
        Bounds.refused("dog 40 of no team", Bounds.OUT, () -> dogs(40), x -> x.dog(1, 5, 5));
        Bounds.refused("dog 40 of strength 0", Bounds.BAD, () -> dogs(40), x -> x.dog(0, 0, 5));
        Bounds.refused("dog 40 of lead 10", Bounds.BAD, () -> dogs(40), x -> x.dog(0, 5, 10));
    }

    /** "if there is no such dog or team", ahead of "if it is retired, dead, hitched or in a race". */
    private static void leaseBounds() {
        Bounds.index("lease of dog", 19, Bounds::rich, (x, dog) -> x.lease(dog, 0));
        Bounds.index("lease to team", 3, Bounds::rich, (x, team) -> x.lease(17, team));
        Bounds.refused("lease of a dog in a race to no team", Bounds.OUT, Bounds::rich, x -> x.lease(0, 4));
        Bounds.refused("lease of a hitched dog to no team", Bounds.OUT, Bounds::rich, x -> x.lease(11, -1));
        Check.same("lease of the last dog", Bounds.rich().lease(19, 0), 3);
        Check.same("lease to the last team", Bounds.rich().lease(18, 3), 2);
        Check.same("lease to the team that has it", Bounds.rich().lease(18, 2), 2);
    }

    /** "if it is retired, dead, hitched or in a race"; a dog in the kennel or dropped, or a pup, can be leased. */
    private static void leaseStates() {
        Bounds.refused("lease of a dog in a race", Bounds.CANNOT, Bounds::rich, x -> x.lease(0, 1));
        Bounds.refused("lease of a hitched dog", Bounds.CANNOT, Bounds::rich, x -> x.lease(11, 1));
        Bounds.refused("lease of a dead dog", Bounds.CANNOT, TrailBoundsTest::withTheDead, x -> x.lease(0, 0));
        Bounds.refused("lease of a retired dog", Bounds.CANNOT, () -> aged(7), x -> x.lease(0, 0));
        Check.same("lease of a dog of 8 years", aged(6).lease(0, 0), 0);
        Check.same("lease of a pup", Bounds.rich().lease(19, 1), 3);
        Gangline dropped = Bounds.rich();
        dropped.drop(0, 3);
        Check.same("lease of a dropped dog", dropped.lease(3, 1), 0);
        Check.same("lease of a dog whose team is out", Bounds.halted().lease(3, 1), 0);
    }

    /** Dogs 0 to 4 are dead, dog 5 is alive. */
    private static Gangline withTheDead() {
        Gangline world = new Gangline();
        world.leg(120, 0, 0);
        world.leg(120, 0, 0);
        world.leg(5, 0, 0);
        Check.addTeam(world, 5, 8, 3);
        world.dog(0, 5, 5);
        world.begin(0, 40);
        world.run(0);
        world.run(0);
        return world;
    }

    /** Dog 0 is 2 years and these older, dog 1 was a pup of the first one. */
    private static Gangline aged(int years) {
        Gangline world = Check.trail(2);
        world.team();
        world.dog(0, 5, 5);
        world.dog(0, 5, 5);
        world.litter(0, 1);
        for (int i = 0; i < years; i++) {
            world.endYear();
        }
        return world;
    }

    /** "if there is no such team or dog", ahead of all others; "if there are 14" behind all others. */
    private static void hitchBounds() {
        Bounds.index("hitch by team", 3, Bounds::rich, (x, team) -> x.hitch(team, 17));
        Bounds.index("hitch of dog", 19, Bounds::rich, (x, dog) -> x.hitch(2, dog));
        Bounds.refused("hitch of no dog by a team on its way", Bounds.OUT, Bounds::rich, x -> x.hitch(0, 20));
        Bounds.refused("hitch by no team of a dog in a race", Bounds.OUT, Bounds::rich, x -> x.hitch(4, 0));
        Bounds.refused("hitch of no dog as the 15th", Bounds.OUT, TrailBoundsTest::fourteen, x -> x.hitch(0, 16));
        Bounds.refused("the 15th dog", Bounds.FULL, TrailBoundsTest::fourteen, x -> x.hitch(0, 14));
        Bounds.refused("a hitched dog as the 15th", Bounds.CANNOT, TrailBoundsTest::fourteen, x -> x.hitch(0, 13));
        Bounds.refused("another's dog as the 15th", Bounds.CANNOT, TrailBoundsTest::fourteen, x -> x.hitch(0, 15));
        Gangline begun = fourteen();
        begun.begin(0, 0);
        Check.text("the 15th behind the beginning throws", Bounds.thrownBy(begun, x -> x.hitch(0, 14)),
            "UnsupportedOperationException");
    }

    /** 14 dogs are hitched, dog 14 is not, dog 15 is another team's. */
    private static Gangline fourteen() {
        Gangline world = Check.trail(2);
        Check.addTeam(world, 14, 8, 3);
        world.dog(0, 8, 3);
        world.dog(world.team(), 8, 3);
        return world;
    }

    /** "if the team has begun this year, has not the dog, or the dog is ... retired, dead, or hitched". */
    private static void hitchStates() {
        Bounds.refused("hitch by a team on its way", Bounds.CANNOT, () -> withSpare('r'), x -> x.hitch(0, 5));
        Bounds.refused("hitch by a team that is out", Bounds.CANNOT, () -> withSpare('x'), x -> x.hitch(0, 5));
        Bounds.refused("hitch by a team that finished", Bounds.CANNOT, () -> withSpare('f'), x -> x.hitch(0, 5));
        Check.same("hitch by a team that has not begun", withSpare('-').hitch(0, 5), 6);
        Bounds.refused("hitch of another's dog", Bounds.CANNOT, Bounds::rich, x -> x.hitch(2, 17));
        Bounds.refused("hitch of a dog that is leased to another", Bounds.CANNOT, Bounds::rich, x -> x.hitch(3, 18));
        Check.same("hitch of a leased dog", Bounds.rich().hitch(2, 18), 6);
        Bounds.refused("hitch of a hitched dog", Bounds.CANNOT, Bounds::rich, x -> x.hitch(2, 11));
        Gangline dead = withTheDead();
        dead.endYear();
        Check.text("hitch of a dead dog throws", Bounds.thrownBy(dead, x -> x.hitch(0, 0)),
            "UnsupportedOperationException");
        Check.same("hitch of one that lives", dead.hitch(0, 5), 1);
    }

    /** A team of 5, whose race is as the letter tells, with a sixth dog in the kennel. */
    private static Gangline withSpare(char race) {
        Gangline world = Check.ready(2, 1);
        world.dog(0, 8, 3);
        if (race != '-') {
            world.begin(0, 60);
        }
        if (race == 'f') {
            world.run(0);
            world.restLong(0);
            world.run(0);
        }
        if (race == 'x') {
            world.scratch(0);
        }
        Check.letter("race", world.raceOf(0), race);
        return world;
    }

    /** "A dog runs from the age of 1 on"; "those above 8 retire". */
    private static void hitchAges() {
        Bounds.refused("hitch at the age of 0", Bounds.CANNOT, () -> aged(0), x -> x.hitch(0, 2));
        Check.same("hitch at the age of 1", aged(1).hitch(0, 2), 1);
        Check.same("hitch at the age of 8", aged(6).hitch(0, 0), 1);
        Check.same("the age", aged(6).dogOf(0, 'a'), 8);
        Bounds.refused("hitch at the age of 9", Bounds.CANNOT, () -> aged(7), x -> x.hitch(0, 0));
        Check.same("the next age", aged(7).dogOf(0, 'a'), 9);
        Check.same("hitch of the pup at 8", aged(8).hitch(0, 2), 1);
        Bounds.refused("hitch of the pup at 9", Bounds.CANNOT, () -> aged(9), x -> x.hitch(0, 2));
    }

    /** "A team enters with 5 to 14 dogs": "it has fewer than 5 dogs". */
    private static void fiveToFourteenDogs() {
        Bounds.refused("begin without dogs", Bounds.CANNOT, () -> withDogs(0), x -> x.begin(0, 0));
        Bounds.refused("begin with 4 dogs", Bounds.CANNOT, () -> withDogs(4), x -> x.begin(0, 0));
        for (int count : new int[] {5, 6, 13, 14}) {
            Gangline world = withDogs(count);
            Check.same("begin with " + count, world.begin(0, 0), 0);
            Check.same("dogs with it", world.teamOf(0, 'd'), count);
            Check.number("all began", world.inShare(), 1f);
            Check.same("all of them pull", world.estimate(0), 40 * 6 * 60 / (40 * count));
        }
    }

    private static Gangline withDogs(int count) {
        Gangline world = Check.trail(2);
        Check.addTeam(world, count, 8, 3);
        return world;
    }

    /** "in their order, the first two of those that are left being the leaders". */
    private static void leadersAreTheFirstTwoLeft() {
        int[][] leads = {{9, 0, 0, 0, 0, 0}, {0, 9, 0, 0, 0, 0}, {0, 0, 9, 9, 9, 9}, {7, 5, 9, 9, 9, 9}};
        int[] best = {9, 9, 0, 7};
        for (int i = 0; i < leads.length; i++) {
            Check.same("best lead of row " + i, bestLead(withLeads(leads[i])), best[i]);
        }
        Gangline world = withLeads(new int[] {8, 7, 6, 5, 4, 3});
        // The order is that of hitching, not that of the dogs' numbers: dog 5 is the first one.
        Check.same("all of them", bestLead(world), 8);
        world.drop(0, 5);
        Check.same("without the first one", bestLead(world), 7);
        world.drop(0, 3);
        Check.same("without the third one", bestLead(world), 7);
        world.drop(0, 4);
        Check.same("without the second one", bestLead(world), 5);
        world.drop(0, 2);
        world.drop(0, 1);
        Check.same("a single one", bestLead(world), 3);
        world.drop(0, 0);
        Check.same("none", bestLead(world), 0);
        Gangline rising = withLeads(new int[] {1, 2, 3, 4, 5, 9});
        for (int dog = 5; dog >= 2; dog--) {
            Check.same("the second one of those left", bestLead(rising), 7 - dog);
            rising.drop(0, dog);
        }
        Check.same("the last two", bestLead(rising), 9);
        Gangline inside = withLeads(new int[] {1, 2, 3, 4, 5, 9});
        inside.drop(0, 4);
        Check.same("the third one is the second then", bestLead(inside), 3);
    }

    /** Dogs of these leads, the last dog hitched first. */
    private static Gangline withLeads(int[] leads) {
        Gangline world = Check.trail(2);
        world.team();
        for (int i = leads.length - 1; i >= 0; i--) {
            world.dog(0, 8, leads[i]);
        }
        for (int dog = leads.length - 1; dog >= 0; dog--) {
            world.hitch(0, dog);
        }
        world.begin(0, 0);
        world.storm(0, 0, 9999, 9);
        return world;
    }

    private static int bestLead(Gangline world) {
        int pulls = Math.max(1, 40 * world.teamOf(0, 'd'));
        return 9 - (world.estimate(0) - 40 * 15 * 60 / pulls) / 15;
    }

    /** "the checkpoint, from 1, ahead of the finish"; "how many, 1 to 300". */
    private static void sendBounds() {
        Bounds.index("send by team", 3, Bounds::rich, (x, team) -> x.send(team, 1, 1));
        Bounds.range("send", 1, 300, () -> Check.ready(3, 1), (x, kilos) -> x.send(0, 1, kilos));
        Bounds.refused("send to the first checkpoint", Bounds.OUT, Bounds::rich, x -> x.send(2, 0, 1));
        Check.same("send to checkpoint 1", Bounds.rich().send(2, 1, 1), 31);
        Check.same("send to the last one ahead of the finish", Bounds.rich().send(2, 4, 1), 31);
        Bounds.index("send to checkpoint", 4, Bounds::rich, (x, checkpoint) -> x.send(2, checkpoint, 1));
        Bounds.refused("send to the finish of 10 legs", Bounds.OUT, () -> Check.ready(10, 1), x -> x.send(0, 10, 1));
        Check.same("send to checkpoint 9", Check.ready(10, 1).send(0, 9, 1), 1);
        Bounds.refused("send with 1 leg", Bounds.OUT, () -> Check.ready(1, 1), x -> x.send(0, 1, 1));
        Bounds.refused("send to 0 with 1 leg", Bounds.OUT, () -> Check.ready(1, 1), x -> x.send(0, 0, 1));
        Bounds.refused("send without legs", Bounds.OUT, () -> Check.ready(0, 1), x -> x.send(0, 1, 1));
    }

    /** "Ahead of its beginning, a team sends kilos to checkpoints, 300 in all": "if it would be more than 300". */
    private static void sendThreeHundredInAll() {
        Check.same("300 at once", Check.ready(3, 1).send(0, 1, 300), 300);
        Check.same("300 in all", sent(299).send(0, 2, 1), 300);
        Bounds.refused("301 in all", Bounds.FULL, () -> sent(299), x -> x.send(0, 2, 2));
        Bounds.refused("301 at one checkpoint", Bounds.FULL, () -> sent(299), x -> x.send(0, 1, 2));
        Bounds.refused("1 more than 300", Bounds.FULL, () -> sent(300), x -> x.send(0, 2, 1));
        Bounds.refused("300 more than 300", Bounds.FULL, () -> sent(300), x -> x.send(0, 2, 300));
        Gangline two = sent(300);
        Check.addTeam(two, 5, 8, 3);
        Check.same("300 of another team", two.send(1, 1, 300), 300);
        Gangline later = sent(300);
        later.endYear();
        Check.same("300 of the next year", later.send(0, 1, 300), 300);
    }

    private static Gangline sent(int kilos) {
        Gangline world = Check.ready(3, 1);
        world.send(0, 1, kilos);
        return world;
    }

    /** "If several exceptions apply, the exception listed first is thrown": for send. */
    private static void sendThrowsTheFirstListed() {
        Bounds.refused("bad kilos of no team", Bounds.OUT, Bounds::rich, x -> x.send(4, 1, 0));
        Bounds.refused("bad kilos to no checkpoint", Bounds.OUT, Bounds::rich, x -> x.send(2, 5, 301));
        Bounds.refused("no checkpoint, on the way", Bounds.OUT, Bounds::rich, x -> x.send(0, 0, 1));
        Bounds.refused("no checkpoint, too many", Bounds.OUT, () -> sent(300), x -> x.send(0, 3, 1));
        Bounds.refused("bad kilos, on the way", Bounds.BAD, Bounds::rich, x -> x.send(0, 1, 0));
        Bounds.refused("bad kilos, too many", Bounds.BAD, () -> sent(300), x -> x.send(0, 1, 301));
        Bounds.refused("too many, on the way", Bounds.CANNOT, Bounds::rich, x -> x.send(0, 1, 300));
        Bounds.refused("send on the way", Bounds.CANNOT, Bounds::rich, x -> x.send(0, 1, 1));
        Bounds.refused("send by one that is out", Bounds.CANNOT, Bounds::halted, x -> x.send(0, 1, 1));
        Bounds.refused("send by one that finished", Bounds.CANNOT, TrailBoundsTest::oneOfTwoFinished,
            x -> x.send(0, 1, 1));
    }

    /** "the kilos on the sled, 0 to 200". */
    private static void beginBounds() {
        Bounds.index("begin of team", 3, Bounds::rich, (x, team) -> x.begin(team, 0));
        Bounds.range("begin with", 0, 200, Bounds::rich, (x, kilos) -> x.begin(2, kilos));
        Gangline light = Check.ready(1, 1);
        light.begin(0, 0);
        Check.same("no kilos", light.teamOf(0, 'k'), 0);
        Gangline heavy = Check.ready(1, 1);
        heavy.begin(0, 200);
        Check.same("200 kilos", heavy.teamOf(0, 'k'), 200);
        Bounds.refused("begin without legs", Bounds.CANNOT, () -> Check.ready(0, 1), x -> x.begin(0, 0));
        Check.same("begin with 1 leg", Check.ready(1, 1).begin(0, 0), 0);
    }

    /** "at twice as many minutes as teams began ahead of it": those that are out or finished, too. */
    private static void beginAtTwiceTheTeamsAhead() {
        Gangline world = Check.ready(2, 6);
        int[] order = {3, 5, 0, 1, 4, 2};
        for (int i = 0; i < 6; i++) {
            Check.same("begin " + i, world.begin(order[i], 60), 2 * i);
            Check.same("its minute", world.teamOf(order[i], 'm'), 2 * i);
            if (i == 1) {
                world.scratch(5);
            }
        }
        Gangline later = Check.ready(2, 1);
        later.begin(0, 60);
        later.scratch(0);
        later.endYear();
        for (int i = 0; i < 5; i++) {
            later.hitch(0, i);
        }
        Check.same("the first one of the next year", later.begin(0, 60), 0);
    }

    /** "If several exceptions apply, the exception listed first is thrown": for begin. */
    private static void beginThrowsTheFirstListed() {
        Bounds.refused("bad kilos of no team", Bounds.OUT, Bounds::rich, x -> x.begin(4, 201));
        Bounds.refused("bad kilos, begun", Bounds.BAD, Bounds::rich, x -> x.begin(0, 201));
        Bounds.refused("bad kilos without dogs", Bounds.BAD, Bounds::rich, x -> x.begin(3, -1));
        Bounds.refused("bad kilos without legs", Bounds.BAD, () -> Check.ready(0, 1), x -> x.begin(0, 201));
        Bounds.refused("begin on the way", Bounds.CANNOT, Bounds::rich, x -> x.begin(0, 0));
        Bounds.refused("begin when out", Bounds.CANNOT, Bounds::halted, x -> x.begin(0, 0));
        Bounds.refused("begin when finished", Bounds.CANNOT, TrailBoundsTest::oneOfTwoFinished, x -> x.begin(0, 0));
    }

    /** "Once one was taken, no team can begin any more in this year": the long rest, not that of a checkpoint. */
    private static void beginAheadOfALongRest() {
        Gangline world = Check.ready(3, 3);
        world.must(1, true);
        world.begin(0, 60);
        world.run(0);
        world.restMust(0);
        Check.same("begin behind a checkpoint's rest", world.begin(1, 60), 2);
        Bounds.refused("begin behind a long rest", Bounds.CANNOT, () -> longTaken(false), x -> x.begin(1, 0));
        Bounds.refused("begin behind a long rest of one that is out", Bounds.CANNOT, () -> longTaken(true),
            x -> x.begin(1, 0));
        Gangline later = longTaken(true);
        later.endYear();
        for (int i = 5; i < 10; i++) {
            later.hitch(1, i);
        }
        Check.same("begin in the next year", later.begin(1, 0), 0);
    }

    private static Gangline longTaken(boolean out) {
        Gangline world = Check.ready(3, 2);
        world.begin(0, 60);
        world.run(0);
        world.restLong(0);
        if (out) {
            world.scratch(0);
        }
        return world;
    }

    /** "it has these, the minute, the checkpoint and the kilos 0, ahead of that, too"; "100 and 5 as a race begins". */
    private static void numbersAheadOfTheBeginning() {
        Gangline fresh = Check.ready(2, 1);
        Check.text("a new team", numbers(fresh, 0), "0 0 0 100 0 3 6");
        fresh.begin(0, 0);
        Check.text("a team that begins", numbers(fresh, 0), "0 0 0 100 0 3 6");
        Gangline worn = Bounds.rich();
        worn.mend(0);
        worn.run(0);
        worn.scratch(0);
        worn.scratch(1);
        worn.endYear();
        Check.text("in the next year", numbers(worn, 0), "0 0 0 100 0 3 6");
        for (int i = 0; i < 6; i++) {
            worn.hitch(0, i);
        }
        worn.begin(0, 7);
        Check.text("as it begins in the next year", numbers(worn, 0), "0 0 7 100 0 3 6");
        for (int i = 0; i < 6; i++) {
            Check.text("dog " + i, worn.dogOf(i, 'f') + " " + worn.dogOf(i, 'e') + " " + worn.dogOf(i, 'w') + " "
                + worn.dogOf(i, 't'), "100 100 100 5");
        }
    }

    private static String numbers(Gangline world, int team) {
        StringBuilder all = new StringBuilder();
        for (char what : "mcksbpo".toCharArray()) {
            all.append(all.length() == 0 ? "" : " ").append(world.teamOf(team, what));
        }
        return all.toString();
    }
}
