/** The sentences with a bound of "Running", "Rests", "Food", "Sleds" and "Dropping", and of the promises 12 to 25. */
public final class WayBoundsTest {
    public static void main(String[] args) {
        numbersOfTeamsAndDogs();
        numbersOfCalls();
        notAtACheckpointOnItsWay();
        fiveDogsOrMore();
        noneMustStop();
        theCheckpointsRest();
        stormOfNineCloses();
        hourIsCut();
        barsAreToldInTheirOrder();
        pullIsCutTwice();
        pullsOfAtLeastOne();
        tenMinutesForEachBreak();
        sleepBelowTwenty();
        stormMoreThanTheLead();
        foodOfALeg();
        waterOfALeg();
        feetOfALeg();
        nothingBelowZero();
        trustOfTheHungry();
        sleepOfALeg();
        breaksOfALeg();
        bootsForSixLegs();
        deathWithoutFoodAndWater();
        campHoursOneToThirty();
        feetUpToHundred();
        trustInEachFourthHour();
        longRestOnceBehindTheFirst();
        longRestGivesBack();
        restsAreHours();
        restOfACheckpointOnce();
        finishWithoutTheLongRest();
        takeWhatWasSent();
        feedWhatIsCarried();
        foodAndWaterUpToHundred();
        giveAtTheSameCheckpoint();
        helpTwice();
        mendThreeBreaks();
        partsAreThree();
        exchangeTwice();
        dropEachDog();
        scratchOnce();
        Check.end("WayBoundsTest");
    }

    /** A world with these legs, each {length, surface, climb}, and a team of 5 dogs. */
    private static Gangline trip(int strength, int lead, int[]... legs) {
        Gangline world = new Gangline();
        for (int[] leg : legs) {
            world.leg(leg[0], leg[1], leg[2]);
        }
        Check.addTeam(world, 5, strength, lead);
        return world;
    }

    private static int[] flat(int length) {
        return new int[] {length, 0, 0};
    }

    private static Gangline allTeams() {
        return Check.begun(3, 6);
    }

    /** "if there is no such team": for all calls on the way, ahead of all that is listed behind it. */
    private static void numbersOfTeamsAndDogs() {
        for (Bounds.Maker maker : new Bounds.Maker[] {Bounds::rich, WayBoundsTest::allTeams}) {
            int last = Check.teamsOf(maker.make()) - 1;
            Bounds.index("run", last, maker, (x, team) -> x.run(team));
            Bounds.index("camp", last, maker, (x, team) -> x.camp(team, 0));
            Bounds.index("restLong", last, maker, (x, team) -> x.restLong(team));
            Bounds.index("restMust", last, maker, (x, team) -> x.restMust(team));
            Bounds.index("take", last, maker, (x, team) -> x.take(team, 0));
            Bounds.index("feed", last, maker, (x, team) -> x.feed(team, 4));
            Bounds.index("melt", last, maker, (x, team) -> x.melt(team));
            Bounds.index("boots", last, maker, (x, team) -> x.boots(team, true));
            Bounds.index("give", last, maker, (x, team) -> x.give(team, 0, 0));
            Bounds.index("give to", last, maker, (x, team) -> x.give(0, team, 201));
            Bounds.index("give to itself", last, maker, (x, team) -> x.give(team, team, 1));
            Bounds.index("help", last, maker, (x, team) -> x.help(team));
            Bounds.index("mend", last, maker, (x, team) -> x.mend(team));
            Bounds.index("exchange", last, maker, (x, team) -> x.exchange(team));
            Bounds.index("drop by", last, maker, (x, team) -> x.drop(team, 0));
            Bounds.index("scratch", last, maker, (x, team) -> x.scratch(team));
        }
        Bounds.index("drop of", 19, Bounds::rich, (x, dog) -> x.drop(0, dog));
        Bounds.refused("drop of no dog when out", Bounds.OUT, Bounds::halted, x -> x.drop(0, 20));
        Bounds.refused("drop of no dog by no team", Bounds.OUT, Bounds::rich, x -> x.drop(4, 20));
    }

    /** "if a number or letter is out of range": ahead of all that is listed behind it, and why() stays. */
    private static void numbersOfCalls() {
        Bounds.range("camp", 1, 30, Bounds::rich, (x, hours) -> x.camp(0, hours));
        Bounds.range("feed", 1, 3, Bounds::rich, (x, kilos) -> x.feed(0, kilos));
        Bounds.range("take", 1, 300, () -> sentAndThere(300), (x, kilos) -> x.take(0, kilos));
        Bounds.range("give", 1, 200, WayBoundsTest::handedOn, (x, kilos) -> x.give(3, 0, kilos));
        for (Bounds.Maker maker : new Bounds.Maker[] {WayBoundsTest::barredBefore, Bounds::halted}) {
            Bounds.refused("camp of 0 hours", Bounds.BAD, maker, x -> x.camp(0, 0));
            Bounds.refused("camp of 31 hours", Bounds.BAD, maker, x -> x.camp(0, 31));
            Bounds.refused("take of 0 kilos", Bounds.BAD, maker, x -> x.take(0, 0));
            Bounds.refused("take of 301 kilos", Bounds.BAD, maker, x -> x.take(0, 301));
            Bounds.refused("feed of 0 kilos", Bounds.BAD, maker, x -> x.feed(0, 0));
            Bounds.refused("feed of 4 kilos", Bounds.BAD, maker, x -> x.feed(0, 4));
            Bounds.refused("give of 0 kilos", Bounds.BAD, maker, x -> x.give(0, 1, 0));
            Bounds.refused("give of 201 kilos", Bounds.BAD, maker, x -> x.give(0, 1, 201));
            Bounds.refused("give of 0 kilos to itself", Bounds.BAD, maker, x -> x.give(0, 0, 0));
        }
    }

    /** Team 3 carries 240 kilos, which the others gave to it. */
    private static Gangline handedOn() {
        Gangline world = Check.begun(2, 4);
        for (int team = 0; team < 3; team++) {
            world.give(team, 3, 60);
        }
        return world;
    }

    /** why() of team 0 tells 'l'. */
    private static Gangline barredBefore() {
        Gangline world = Check.begun(3, 2);
        Bounds.thrownBy(world, x -> x.restLong(0));
        return world;
    }

    /** Team 0 has sent so many kilos to the checkpoint where it is, with no kilos on its sled. */
    private static Gangline sentAndThere(int kilos) {
        Gangline world = Check.ready(3, 2);
        world.send(0, 1, kilos);
        world.begin(0, 0);
        world.begin(1, 0);
        world.run(0);
        world.run(1);
        return world;
    }

    /** "if it is not at a checkpoint of the race, on its way": not begun, finished, or out; why() tells 'n'. */
    private static void notAtACheckpointOnItsWay() {
        for (char race : new char[] {'-', 'f', 'x'}) {
            Bounds.Maker maker = () -> inRace(race);
            Class<? extends RuntimeException> due = Bounds.CANNOT;
            Bounds.barred("run, " + race, 0, 'n', due, maker, x -> x.run(0));
            Bounds.barred("camp, " + race, 0, 'n', due, maker, x -> x.camp(0, 1));
            Bounds.barred("restLong, " + race, 0, 'n', due, maker, x -> x.restLong(0));
            Bounds.barred("restMust, " + race, 0, 'n', due, maker, x -> x.restMust(0));
            Bounds.barred("take, " + race, 0, 'n', due, maker, x -> x.take(0, 300));
            Bounds.barred("feed, " + race, 0, 'n', due, maker, x -> x.feed(0, 3));
            Bounds.barred("melt, " + race, 0, 'n', due, maker, x -> x.melt(0));
            Bounds.barred("boots on, " + race, 0, 'n', due, maker, x -> x.boots(0, true));
            Bounds.barred("boots off, " + race, 0, 'n', due, maker, x -> x.boots(0, false));
            Bounds.barred("mend, " + race, 0, 'n', due, maker, x -> x.mend(0));
            Bounds.barred("exchange, " + race, 0, 'n', due, maker, x -> x.exchange(0));
            Bounds.refused("give, " + race, due, maker, x -> x.give(0, 1, 1));
            Bounds.refused("give to, " + race, due, maker, x -> x.give(1, 0, 1));
            Bounds.refused("help, " + race, due, maker, x -> x.help(0));
            Bounds.refused("drop, " + race, due, maker, x -> x.drop(0, 0));
            Check.isNot("scratch, " + race, () -> inRace(race).scratch(0));
        }
    }

    /** Team 0 is as the letter tells, with no parts or exchanges left if it began; team 1 is on its way. */
    private static Gangline inRace(char race) {
        Gangline world = Check.ready(2, 2);
        world.begin(1, 100);
        if (race == '-') {
            return world;
        }
        world.begin(0, 100);
        for (int i = 0; i < 3; i++) {
            world.mend(0);
        }
        world.exchange(0);
        world.exchange(0);
        if (race == 'f') {
            world.run(0);
            world.restLong(0);
            world.run(0);
        } else {
            world.scratch(0);
        }
        Check.letter("race", world.raceOf(0), race);
        return world;
    }

    /** "A team runs the next leg if it has 5 dogs or more". */
    private static void fiveDogsOrMore() {
        Gangline world = Check.trail(3);
        Check.addTeam(world, 6, 8, 3);
        world.begin(0, 0);
        world.drop(0, 5);
        Check.same("run with 5", world.run(0), 40 * 6 * 60 / 200);
        Bounds.barred("run with 4", 0, 'd', Bounds.CANNOT, () -> withDogs(4), x -> x.run(0));
        Bounds.barred("run with 1", 0, 'd', Bounds.CANNOT, () -> withDogs(1), x -> x.run(0));
        Bounds.barred("run without dogs", 0, 'd', Bounds.CANNOT, () -> withDogs(0), x -> x.run(0));
        Check.same("camp without dogs", withDogs(0).camp(0, 1), 60);
        Check.same("feed without dogs", withDogs(0).feed(0, 3), 60);
        Check.same("melt without dogs", withDogs(0).melt(0), 45);
        Bounds.refused("feet without dogs", Bounds.NO_NUMBER, () -> withDogs(0), x -> x.meanFeet());
        Check.number("share without dogs", withDogs(0).inShare(), 0f);
    }

    private static Gangline withDogs(int left) {
        Gangline world = Check.begun(2, 1);
        for (int dog = 4; dog >= left; dog--) {
            world.drop(0, dog);
        }
        return world;
    }

    /** "A dog must stop if its feet are below 15, or its food or its water is 0": "none of which must stop". */
    private static void noneMustStop() {
        Check.same("run with feet of 15", withFeet(15).run(0) > 0 ? 1 : 0, 1);
        Bounds.barred("run with feet of 14", 0, 's', Bounds.CANNOT, () -> withFeet(14), x -> x.run(0));
        Check.same("run with food of 1", withFood(1).run(0) > 0 ? 1 : 0, 1);
        Bounds.barred("run with food of 0", 0, 's', Bounds.CANNOT, () -> withFood(0), x -> x.run(0));
        Check.same("run with water of 1", withWater(1).run(0) > 0 ? 1 : 0, 1);
        Bounds.barred("run with water of 0", 0, 's', Bounds.CANNOT, () -> withWater(0), x -> x.run(0));
        for (int i = 0; i < 5; i++) {
            int dog = i;
            Check.is("must stop with feet of 14", () -> withFeet(14).mustStop(dog));
            Check.isNot("must stop with feet of 15", () -> withFeet(15).mustStop(dog));
            Check.is("must stop with food of 0", () -> withFood(0).mustStop(dog));
            Check.isNot("must stop with food of 1", () -> withFood(1).mustStop(dog));
            Check.is("must stop with water of 0", () -> withWater(0).mustStop(dog));
            Check.isNot("must stop with water of 1", () -> withWater(1).mustStop(dog));
        }
    }

    /** Feet of 14 or 15, at checkpoint 4 of 6. */
    private static Gangline withFeet(int feet) {
        int[] rough = {100, 9, 0};
        Gangline world = trip(8, 3, rough, rough, rough, new int[] {feet == 15 ? 62 : 67, 9, 0}, flat(5), flat(5));
        for (int leg = 0; leg < 4; leg++) {
            world.cold(leg, -31);
        }
        world.begin(0, 15);
        // 18 and 5 from the feet three times; then 11 and 5, or 12 and 5.
        for (int leg = 0; leg < 4; leg++) {
            world.run(0);
            world.melt(0);
            if (leg == 0) {
                world.feed(0, 3);
            }
        }
        Check.text("feet, food and water", state(world), feet == 15 ? "15 19 89 4" : "14 17 87 4");
        return world;
    }

    /** Food of 0 or 1, at checkpoint 1 of 3: 120 * 165 / 200 and 1 are 100, 120 * 164 / 200 and 1 are 99. */
    private static Gangline withFood(int food) {
        Gangline world = trip(8, 3, flat(120), flat(5), flat(5));
        world.begin(0, food == 0 ? 105 : 104);
        world.run(0);
        Check.text("feet, food and water", state(world), "100 " + food + " 40 4");
        return world;
    }

    /** Water of 0 or 1, at checkpoint 2 of 4. */
    private static Gangline withWater(int water) {
        Gangline world = trip(8, 3, flat(120), flat(water == 0 ? 80 : 79), flat(5), flat(5));
        world.begin(0, 0);
        world.run(0);
        world.run(0);
        Check.text("feet, food and water", state(world), "100 " + (water == 0 ? 38 : 39) + " " + water + " 4");
        return world;
    }

    private static String state(Gangline world) {
        return world.dogOf(0, 'f') + " " + world.dogOf(0, 'e') + " " + world.dogOf(0, 'w') + " " + world.dogOf(0, 't');
    }

    /** "the checkpoint's rest, if it has one, was taken". */
    private static void theCheckpointsRest() {
        Bounds.barred("run without the rest", 0, 'm', Bounds.CANNOT, () -> atRest(false), x -> x.run(0));
        Bounds.barred("run with the long one instead", 0, 'm', Bounds.CANNOT, () -> {
            Gangline world = atRest(false);
            world.restLong(0);
            return world;
        }, x -> x.run(0));
        Bounds.barred("run with camping instead", 0, 'm', Bounds.CANNOT, () -> {
            Gangline world = atRest(false);
            world.camp(0, 8);
            return world;
        }, x -> x.run(0));
        Check.same("run with the rest", atRest(true).run(0) > 0 ? 1 : 0, 1);
    }

    /** A team at checkpoint 1, where a rest is, of a trail of 3 legs. */
    private static Gangline atRest(boolean taken) {
        Gangline world = Check.ready(3, 1);
        world.must(1, true);
        world.begin(0, 60);
        world.run(0);
        if (taken) {
            world.restMust(0);
        }
        return world;
    }

    /** "no storm of strength 9 is on the leg": 9 closes it, 8 does not. */
    private static void stormOfNineCloses() {
        Bounds.barred("run in a storm of 9", 0, 'c', Bounds.CANNOT, () -> inStorm(9), x -> x.run(0));
        Check.same("run in a storm of 8", inStorm(8).run(0), 40 * 14 * 120 / 200 + 15 * 5);
        Gangline two = inStorm(8);
        two.storm(0, 0, 0, 1);
        Check.same("two storms of 9 in sum", two.run(0), 40 * 14 * 120 / 200 + 15 * 5);
        Gangline other = Check.begun(2, 1);
        other.storm(1, 0, 9999, 9);
        Check.same("run with a storm of 9 on the next leg", other.run(0), 144);
        Check.same("estimate of what a storm closes", inStorm(9).estimate(0), 40 * 15 * 120 / 200 + 15 * 6);
    }

    private static Gangline inStorm(int strength) {
        Gangline world = Check.begun(2, 1);
        world.storm(0, 0, 0, strength);
        return world;
    }

    /** "as it goes, in the hour of its minutes divided by 60, cut": minute 59 is in the hour 0, minute 60 in 1. */
    private static void hourIsCut() {
        Check.same("minute 59, storm in the hour 1", atMinute(59, 1).run(0) > 0 ? 1 : 0, 1);
        Bounds.barred("minute 60, storm in the hour 1", 0, 'c', Bounds.CANNOT, () -> atMinute(60, 1), x -> x.run(0));
        Bounds.barred("minute 59, storm in the hour 0", 0, 'c', Bounds.CANNOT, () -> atMinute(59, 0), x -> x.run(0));
        Check.same("minute 60, storm in the hour 0", atMinute(60, 0).run(0) > 0 ? 1 : 0, 1);
    }

    /** A team at checkpoint 1 at such a minute, and a storm of 9 on the next leg in such an hour. */
    private static Gangline atMinute(int minute, int hour) {
        Gangline world = trip(8, 3, flat(20), flat(20), flat(20));
        world.begin(0, minute == 59 ? 58 : 60);
        Check.same("minutes of the leg", world.run(0), minute);
        world.storm(1, hour, hour, 9);
        return world;
    }

    /** "the first of 'n' ..., 'd' ..., 's' ..., 'm' ..., 'c' ...": all at once, then without the first ones. */
    private static void barsAreToldInTheirOrder() {
        Bounds.barred("all bars", 0, 'd', Bounds.CANNOT, () -> withBars(true, true, true), x -> x.run(0));
        Bounds.barred("all but 'd'", 0, 's', Bounds.CANNOT, () -> withBars(false, true, true), x -> x.run(0));
        Bounds.barred("'m' and 'c'", 0, 'm', Bounds.CANNOT, () -> withBars(false, false, true), x -> x.run(0));
        Bounds.barred("'d', 'm' and 'c'", 0, 'd', Bounds.CANNOT, () -> withBars(true, false, true), x -> x.run(0));
        Bounds.barred("'d' and 'c'", 0, 'd', Bounds.CANNOT, () -> withBars(true, false, false), x -> x.run(0));
        Bounds.barred("'s' and 'c'", 0, 's', Bounds.CANNOT, () -> withBars(false, true, false), x -> x.run(0));
        Bounds.barred("'c' alone", 0, 'c', Bounds.CANNOT, () -> withBars(false, false, false), x -> x.run(0));
        Bounds.barred("'n' and all", 0, 'n', Bounds.CANNOT, () -> {
            Gangline world = withBars(true, true, true);
            world.scratch(0);
            return world;
        }, x -> x.run(0));
    }

    /** A team at checkpoint 1, a closing storm ahead; with 4 dogs, dogs without food, and the rest not taken. */
    private static Gangline withBars(boolean few, boolean spent, boolean must) {
        Gangline world = trip(8, 3, flat(120), flat(5), flat(5));
        world.must(1, true);
        world.begin(0, spent ? 105 : 60);
        world.run(0);
        world.storm(1, 0, 9999, 9);
        if (few) {
            world.drop(0, 2);
        }
        if (!must) {
            world.restMust(0);
        }
        return world;
    }

    /** "its strength times the sum of food and water, divided by 40, cut, times its feet, divided by 100, cut". */
    private static void pullIsCutTwice() {
        Gangline fresh = new Gangline();
        fresh.team();
        for (int strength = 1; strength <= 9; strength++) {
            fresh.dog(0, strength, 0);
            Check.same("pull of strength " + strength, fresh.dogOf(strength - 1, 'p'), 5 * strength);
        }
        // Food 98, water 98, feet 100: 196 times the strength, by 40: 4.9, 9.8, 14.7, 19.6, 24.5, 29.4, 34.3, 39.2.
        int[] cut = {4, 9, 14, 19, 24, 29, 34, 39, 44};
        for (int strength = 1; strength <= 9; strength++) {
            Gangline world = trip(strength, 0, flat(5), flat(5));
            world.begin(0, 0);
            world.run(0);
            Check.text("state", state(world), "100 98 98 5");
            Check.same("pull by 196 of strength " + strength, world.dogOf(0, 'p'), cut[strength - 1]);
        }
        // Feet of 99 too: 3.96, 8.91, 13.86, 18.81, 23.76, 28.71, 33.66, 38.61, 43.56.
        for (int strength = 1; strength <= 9; strength++) {
            Gangline world = trip(strength, 0, new int[] {6, 9, 0}, flat(5));
            world.begin(0, 0);
            world.run(0);
            Check.text("state", state(world), "99 98 97 5");
            int first = strength * 195 / 40;
            Check.same("pull by 195 of strength " + strength, world.dogOf(0, 'p'), first * 99 / 100);
        }
        Check.same("pull without food and water of a team", withFood(0).dogOf(0, 'p'), 8);
        Check.same("pull of strength 8 with 41", withFood(1).dogOf(0, 'p'), 8);
    }

    /** "divided by the sum of all pulls, or by 1 if that is less". */
    private static void pullsOfAtLeastOne() {
        Gangline none = trip(1, 0, flat(120), flat(40), flat(5));
        none.begin(0, 0);
        Check.same("the sum of 25", none.estimate(0), 120 * 5 * 60 / 25);
        none.run(0);
        // Food 63, water 40: 103 / 40 is 2; then food 50, water 20: 70 / 40 is 1; and 39 / 40 would be 0.
        Check.same("a pull of 2", none.dogOf(0, 'p'), 2);
        none.run(0);
        Check.same("a pull of 1", none.dogOf(0, 'p'), 1);
        Check.same("the sum of 5", none.estimate(0), 5 * 5 * 60 / 5 + 5);
        for (int dog = 0; dog < 4; dog++) {
            none.drop(0, dog);
        }
        Check.same("the sum of 1", none.estimate(0), 5 * 5 * 60 + 5);
        none.drop(0, 4);
        Check.same("the sum of 0", none.estimate(0), 5 * 5 * 60 + 5);
        Gangline weak = trip(1, 0, flat(120), flat(40), flat(5));
        weak.begin(0, 80);
        weak.run(0);
        Check.text("state", state(weak), "100 15 40 4");
        Check.same("a pull of 55 / 40", weak.dogOf(0, 'p'), 1);
        weak.run(0);
        Check.same("no pull", weak.dogOf(0, 'p'), 0);
        Check.same("five without pull", weak.estimate(0), 5 * 5 * 140 + 5);
    }

    /** "10 minutes more for each break of the sled". */
    private static void tenMinutesForEachBreak() {
        Gangline world = trip(8, 9, new int[] {5, 0, -6}, new int[] {5, 0, -9}, flat(5), flat(5));
        world.storm(0, 0, 9999, 5);
        world.begin(0, 0);
        Check.same("a whole sled", world.estimate(0), 5 * 10 * 60 / 200);
        world.run(0);
        Check.same("two breaks", world.teamOf(0, 'b'), 2);
        Check.same("20 minutes", world.estimate(0), 5 * 5 * 60 / 195 + 20);
        world.run(0);
        Check.same("three breaks", world.teamOf(0, 'b'), 3);
        Check.same("30 minutes", world.estimate(0), 5 * 5 * 60 / 190 + 30);
        world.exchange(0);
        Check.same("a whole sled again", world.estimate(0), 5 * 5 * 60 / 190);
    }

    /** "as many as its length if the sleep is below 20". */
    private static void sleepBelowTwenty() {
        Check.same("sleep of 20", withSleep(20).estimate(0), 50 * 5 * 60 / 10);
        Check.same("sleep of 19", withSleep(19).estimate(0), 50 * 5 * 61 / 10 + 50);
    }

    /** 50 * 20 * 60 / 25 minutes take 80, 50 * 20 * 61 / 25 take 81. */
    private static Gangline withSleep(int sleep) {
        Gangline world = trip(1, 0, new int[] {50, 9, 6}, flat(50), flat(120));
        world.begin(0, sleep == 20 ? 0 : 1);
        world.run(0);
        Check.same("sleep", world.teamOf(0, 's'), sleep);
        return world;
    }

    /** "15 times what the storm's strength is more than the best lead of the leaders". */
    private static void stormMoreThanTheLead() {
        int[][] due = {{0, 0, 0}, {1, 0, 15}, {5, 4, 15}, {5, 5, 0}, {5, 6, 0}, {8, 0, 120}, {8, 9, 0}, {9, 0, 135}};
        for (int[] row : due) {
            Gangline world = trip(8, row[1], flat(100), flat(5));
            if (row[0] > 0) {
                world.storm(0, 0, 0, row[0]);
            }
            world.begin(0, 0);
            Check.same("storm of " + row[0] + ", lead of " + row[1], world.estimate(0),
                100 * (5 + row[0]) * 60 / 200 + row[2]);
        }
    }

    /** "food becomes less by the length times the load, divided by 200, cut, and 1". */
    private static void foodOfALeg() {
        dogHas("5 * 60 / 200", behind(5, 0, -10, 0, false), 100 - 1 - 1, 'e');
        dogHas("5 * 79 / 200", behind(5, 0, -10, 19, false), 100 - 1 - 1, 'e');
        dogHas("5 * 80 / 200", behind(5, 0, -10, 20, false), 100 - 2 - 1, 'e');
        dogHas("6 * 133 / 200", behind(6, 0, -10, 73, false), 100 - 3 - 1, 'e');
        dogHas("8 * 100 / 200", behind(8, 0, -10, 40, false), 100 - 4 - 1, 'e');
        dogHas("120 * 260 / 200", behind(120, 0, -10, 200, false), 0, 'e');
    }

    /** "its water by half of the length, cut, and by a quarter of the length more, cut, if it is warmer than -5". */
    private static void waterOfALeg() {
        dogHas("half of 5", behind(5, 0, -5, 0, false), 98, 'w');
        dogHas("half of 6", behind(6, 0, -5, 0, false), 97, 'w');
        dogHas("half and a quarter of 7", behind(7, 0, -4, 0, false), 100 - 3 - 1, 'w');
        dogHas("half and a quarter of 8", behind(8, 0, -4, 0, false), 100 - 4 - 2, 'w');
        dogHas("half and a quarter of 10, each cut", behind(10, 0, 20, 0, false), 100 - 5 - 2, 'w');
        dogHas("half and a quarter of 11, each cut", behind(11, 0, 20, 0, false), 100 - 5 - 2, 'w');
        dogHas("half and a quarter of 120", behind(120, 0, 20, 0, false), 10, 'w');
    }

    /** "its feet by the surface times the length, divided by 50, cut, half of that, cut, with boots, and, with boots or
     * without, by 5 more if it is colder than -30". */
    private static void feetOfALeg() {
        dogHas("7 * 7 / 50", behind(7, 7, -10, 0, false), 100, 'f');
        dogHas("5 * 10 / 50", behind(10, 5, -10, 0, false), 99, 'f');
        dogHas("9 * 11 / 50", behind(11, 9, -10, 0, false), 99, 'f');
        dogHas("5 * 20 / 50", behind(20, 5, -10, 0, false), 98, 'f');
        dogHas("half of 1", behind(10, 5, -10, 0, true), 100, 'f');
        dogHas("half of 2", behind(20, 5, -10, 0, true), 99, 'f');
        dogHas("half of 3", behind(30, 5, -10, 0, true), 99, 'f');
        dogHas("half of 21", behind(120, 9, -10, 0, true), 90, 'f');
        dogHas("none and 5", behind(7, 7, -31, 0, false), 95, 'f');
        dogHas("half of 3 and 5", behind(30, 5, -31, 0, true), 94, 'f');
        dogHas("half of 3, at -30", behind(30, 5, -30, 0, true), 99, 'f');
        dogHas("a surface of 0", behind(120, 0, -30, 0, false), 100, 'f');
    }

    private static Gangline behind(int length, int surface, int degrees, int kilos, boolean boots) {
        Gangline world = trip(8, 3, new int[] {length, surface, 0}, flat(5));
        world.cold(0, degrees);
        world.begin(0, kilos);
        world.boots(0, boots);
        world.run(0);
        return world;
    }

    /** "nothing below 0": exactly 0, and what would be less. */
    private static void nothingBelowZero() {
        dogHas("food of exactly 0", behind(120, 0, -10, 105, false), 0, 'e');
        dogHas("food of less", behind(120, 0, -10, 110, false), 0, 'e');
        dogHas("water of exactly 0", withWater(0), 0, 'w');
        Gangline dry = trip(8, 3, flat(120), flat(90), flat(5));
        dry.begin(0, 0);
        dry.run(0);
        dry.run(0);
        dogHas("water of less", dry, 0, 'w');
        dogHas("feet of exactly 0", withSoreFeet(95), 0, 'f');
        dogHas("feet of 1", withSoreFeet(94), 1, 'f');
        dogHas("feet of less", withSoreFeet(120), 0, 'f');
    }

    private static void dogHas(String what, Gangline world, int due, char of) {
        for (int dog = 0; dog < 5; dog++) {
            Check.same(what + ", dog " + dog, world.dogOf(dog, of), due);
        }
    }

    /** Feet of 22, then such a leg of the worst surface in the cold: 9 * length / 50 and 5. */
    private static Gangline withSoreFeet(int length) {
        int[] rough = {120, 9, 0};
        Gangline world = trip(8, 3, rough, rough, rough, new int[] {length, 9, 0}, flat(5));
        world.begin(0, 30);
        for (int leg = 0; leg < 4; leg++) {
            world.cold(leg, -31);
            if (leg == 1 || leg == 2) {
                world.feed(0, 3);
            }
            world.melt(0);
            if (leg == 3) {
                Check.same("feet ahead of the last one", world.dogOf(0, 'f'), 22);
            }
            world.run(0);
        }
        return world;
    }

    /** "A dog whose food or water is below 20 then loses 1 trust": once, and not below 0. */
    private static void trustOfTheHungry() {
        // 120 * 132 / 200 and 1 are 80, 120 * 134 / 200 and 1 are 81.
        Check.text("food of 20", state(behind(120, 0, -10, 72, false)), "100 20 40 5");
        Check.text("food of 19", state(behind(120, 0, -10, 74, false)), "100 19 40 4");
        Check.text("water of 20", state(behind(107, 0, 0, 0, false)), "100 67 21 5");
        Gangline thirsty = trip(8, 3, flat(80), flat(80), flat(5));
        thirsty.begin(0, 0);
        thirsty.run(0);
        thirsty.run(0);
        Check.text("water of 20", state(thirsty), "100 50 20 5");
        Check.text("water of 19", state(behind(108, 0, 0, 0, false)), "100 67 19 4");
        Check.text("food and water below 20", state(behind(120, 0, 0, 74, false)), "100 19 10 4");
        Gangline hungry = trip(8, 0, flat(120), flat(5), flat(5), flat(5), flat(5), flat(5), flat(5), flat(5));
        hungry.begin(0, 74);
        for (int trust : new int[] {4, 3, 2, 1, 0, 0}) {
            hungry.run(0);
            dogHas("trust", hungry, trust, 't');
        }
        Check.is("isTrue with a trust of 0", () -> hungry.isTrue());
    }

    /** "The sleep is less by a 30th of the minutes, cut, at least 0". */
    private static void sleepOfALeg() {
        Gangline quick = trip(8, 0, flat(10), flat(5));
        quick.begin(0, 56);
        Check.same("29 minutes", quick.run(0), 29);
        Check.same("take no sleep", quick.teamOf(0, 's'), 100);
        Gangline half = trip(8, 0, flat(10), flat(5));
        half.begin(0, 60);
        Check.same("30 minutes", half.run(0), 30);
        Check.same("take 1", half.teamOf(0, 's'), 99);
        // 50 * 20 * 75 / 25 are 3000, 50 * 20 * 76 / 25 are 3040.
        int[] steep = {50, 9, 6};
        Gangline slow = trip(1, 0, steep, flat(5));
        slow.begin(0, 14);
        Check.same("2960 minutes", slow.run(0), 2960);
        Check.same("leave 2", slow.teamOf(0, 's'), 2);
        Gangline slower = trip(1, 0, steep, flat(5));
        slower.begin(0, 15);
        Check.same("3000 minutes", slower.run(0), 3000);
        Check.same("leave exactly 0", slower.teamOf(0, 's'), 0);
        Gangline slowest = trip(1, 0, steep, flat(5));
        slowest.begin(0, 17);
        Check.same("3080 minutes", slowest.run(0), 3080);
        Check.same("leave not less", slowest.teamOf(0, 's'), 0);
    }

    /** "The sled breaks once if the climb is below -5, and once if the storm's strength is 5 or more". */
    private static void breaksOfALeg() {
        int[][] due = {{-4, 0, 0}, {-5, 0, 0}, {-6, 0, 1}, {-9, 0, 1}, {9, 0, 0}, {0, 4, 0}, {0, 5, 1}, {0, 8, 1},
            {-5, 4, 0}, {-6, 4, 1}, {-5, 5, 1}, {-6, 5, 2}};
        for (int[] row : due) {
            Gangline world = trip(8, 9, new int[] {20, 0, row[0]}, flat(5));
            if (row[1] > 0) {
                world.storm(0, 0, 0, row[1]);
            }
            world.begin(0, 0);
            world.run(0);
            Check.same("breaks by a climb of " + row[0] + " and a storm of " + row[1], world.teamOf(0, 'b'), row[2]);
        }
    }

    /** "boots for 6 legs"; "without any left none are on, and to put them on leaves them off". */
    private static void bootsForSixLegs() {
        Check.text("on for all", feetBehindEach("11111111"), "99 98 97 96 95 94 92 90");
        Check.text("never on", feetBehindEach("00000000"), "98 96 94 92 90 88 86 84");
        Check.text("put on once", feetBehindEach("1......."), "99 98 97 96 95 94 92 90");
        Check.text("off again", feetBehindEach("1.0....."), "99 98 96 94 92 90 88 86");
        Check.text("on for the last ones", feetBehindEach("....1..."), "98 96 94 92 91 90 89 88");
        Check.text("on, off, on", feetBehindEach("1010101."), "99 97 96 94 93 91 90 89");
        Gangline last = bootTrail();
        last.boots(0, true);
        for (int left = 5; left >= 0; left--) {
            Check.is("boots on with some left", () -> last.boots(0, true));
            last.run(0);
            Check.same("boots left", last.teamOf(0, 'o'), left);
        }
        Check.isNot("boots on with none left", () -> last.boots(0, true));
        Check.letter("why", last.why(0), '-');
        Check.isNot("boots off with none left", () -> last.boots(0, false));
        last.run(0);
        Check.same("none left", last.teamOf(0, 'o'), 0);
    }

    private static Gangline bootTrail() {
        Gangline world = new Gangline();
        for (int leg = 0; leg < 9; leg++) {
            world.leg(20, 5, 0);
        }
        Check.addTeam(world, 5, 8, 3);
        world.begin(0, 0);
        return world;
    }

    /** Feet behind each leg, by 2 or 1 less; ahead of each, '1' puts boots on, '0' off, '.' leaves them. */
    private static String feetBehindEach(String boots) {
        Gangline world = bootTrail();
        StringBuilder feet = new StringBuilder();
        for (char are : boots.toCharArray()) {
            if (are != '.') {
                world.boots(0, are == '1');
            }
            world.melt(0);
            world.run(0);
            feet.append(feet.length() == 0 ? "" : " ").append(world.dogOf(0, 'f'));
        }
        return feet.toString();
    }

    /** "A dog whose food and water are both 0 then dies, and the team, which has come to the next checkpoint, is out". */
    private static void deathWithoutFoodAndWater() {
        Gangline foodless = withFood(0);
        Check.text("food of 0, water", state(foodless), "100 0 40 4");
        Check.text("lives", "" + foodless.stateOf(0) + foodless.raceOf(0), "rr");
        Gangline waterless = withWater(0);
        Check.text("lives too", "" + waterless.stateOf(0) + waterless.raceOf(0), "rr");
        // Water of 40 or 41 behind the first leg; the second takes 40 and all food.
        Gangline saved = starving(119, 81);
        Check.text("food of 0, water of 1", state(saved), "100 0 1 3");
        Check.text("is saved by it", "" + saved.stateOf(0) + saved.raceOf(0) + saved.teamOf(0, 'c'), "rr2");
        Gangline dead = starving(119, 82);
        Check.text("food and water of 0", state(dead), "100 0 0 3");
        Check.text("is dead", "" + dead.stateOf(0) + dead.raceOf(0) + dead.teamOf(0, 'c'), "xx2");
        for (int dog = 0; dog < 5; dog++) {
            Check.letter("each is dead", dead.stateOf(dog), 'x');
        }
        Check.letter("it was done", dead.why(0), '-');
        Check.text("no place", Check.standings(dead), " places");
    }

    /** Two legs of these lengths with 100 kilos on the sled: 119 take 96 of food and 59 of water. */
    private static Gangline starving(int first, int second) {
        Gangline world = trip(8, 3, flat(first), flat(second), flat(5));
        world.begin(0, 100);
        world.run(0);
        world.run(0);
        return world;
    }

    /** "the hours, 1 to 30"; "the sleep is 10 more, up to 100". */
    private static void campHoursOneToThirty() {
        Check.same("1 hour", withSleep(20).camp(0, 1), 2460);
        Check.same("30 hours", withSleep(20).camp(0, 30), 2400 + 1800);
        int[][] due = {{1, 30}, {2, 40}, {7, 90}, {8, 100}, {9, 100}, {30, 100}};
        for (int[] row : due) {
            Gangline world = withSleep(20);
            world.camp(0, row[0]);
            Check.same("sleep behind " + row[0] + " hours", world.teamOf(0, 's'), row[1]);
        }
        Gangline close = withSleep(19);
        close.camp(0, 8);
        Check.same("sleep of 99", close.teamOf(0, 's'), 99);
        close.camp(0, 1);
        Check.same("sleep up to 100", close.teamOf(0, 's'), 100);
        Check.same("camp at the first checkpoint", Check.begun(2, 1).camp(0, 1), 60);
    }

    /** "each dog's feet are 2 more, 4 with a trust of 7 or more, up to 100". */
    private static void feetUpToHundred() {
        dogHas("2 more", camped(0, 1), 77 + 2, 'f');
        dogHas("2 more with a trust of 6", camped(4, 1), 77 + 2, 'f');
        dogHas("4 more with a trust of 7", camped(8, 1), 77 + 4, 'f');
        dogHas("4 more with a trust of 9", camped(16, 1), 77 + 4, 'f');
        Gangline slow = camped(0, 3);
        slow.camp(0, 3);
        slow.camp(0, 3);
        slow.camp(0, 2);
        dogHas("99", slow, 99, 'f');
        slow.camp(0, 1);
        dogHas("not 101", slow, 100, 'f');
        dogHas("97", camped(8, 5), 97, 'f');
        dogHas("not 101 by 4", camped(8, 6), 100, 'f');
    }

    /** Hours of camping ahead of a leg that leaves feet of 77, then such hours. */
    private static Gangline camped(int ahead, int hours) {
        Gangline world = trip(9, 0, new int[] {100, 9, 0}, flat(5));
        world.cold(0, -31);
        world.begin(0, 0);
        if (ahead > 0) {
            world.camp(0, ahead);
        }
        world.run(0);
        Check.same("feet", world.dogOf(0, 'f'), 77);
        world.camp(0, hours);
        return world;
    }

    /** "in each 4th hour of it, then, the trust is 1 more, up to 9". */
    private static void trustInEachFourthHour() {
        int[][] due = {{3, 5}, {4, 6}, {7, 6}, {8, 7}, {15, 8}, {16, 9}, {20, 9}, {30, 9}};
        for (int[] row : due) {
            Gangline world = Check.begun(2, 1);
            world.camp(0, row[0]);
            dogHas("trust behind " + row[0] + " hours", world, row[1], 't');
        }
        Gangline apart = Check.begun(2, 1);
        for (int i = 0; i < 5; i++) {
            apart.camp(0, 3);
        }
        dogHas("trust behind 5 times 3 hours", apart, 5, 't');
        dogHas("feet of the hour in which the trust becomes 7", camped(4, 4), 77 + 8, 'f');
        dogHas("feet of the hour behind it", camped(4, 5), 77 + 8 + 4, 'f');
    }

    /** "must be taken once ahead of the finish, at a checkpoint other than the first one". */
    private static void longRestOnceBehindTheFirst() {
        Bounds.barred("the long rest at the first one", 0, 'l', Bounds.CANNOT, () -> at(3, 0), x -> x.restLong(0));
        Check.same("the long rest at the second one", at(3, 1).restLong(0), 1440);
        Check.same("the long rest at the last one", at(3, 2).restLong(0), 1440);
        Bounds.barred("the long rest again", 0, 'l', Bounds.CANNOT, () -> {
            Gangline world = at(3, 1);
            world.restLong(0);
            return world;
        }, x -> x.restLong(0));
        Bounds.barred("the long rest again, later", 0, 'l', Bounds.CANNOT, () -> {
            Gangline world = at(3, 1);
            world.restLong(0);
            world.run(0);
            return world;
        }, x -> x.restLong(0));
        Bounds.barred("the long rest at the finish", 0, 'n', Bounds.CANNOT, () -> at(3, 3), x -> x.restLong(0));
        Bounds.barred("the long rest of a trail of 1 leg", 0, 'l', Bounds.CANNOT, () -> at(1, 0), x -> x.restLong(0));
        Gangline year = at(3, 1);
        year.restLong(0);
        year.scratch(0);
        year.endYear();
        for (int dog = 0; dog < 5; dog++) {
            year.hitch(0, dog);
        }
        year.begin(0, 60);
        year.run(0);
        Check.same("the long rest of the next year", year.restLong(0), 1440);
    }

    /** A team at such a checkpoint of a trail of so many legs. */
    private static Gangline at(int legs, int checkpoint) {
        Gangline world = Check.begun(legs, 1);
        for (int i = 0; i < checkpoint; i++) {
            world.run(0);
        }
        return world;
    }

    /** "1440 minutes, and 1 more for each minute that the last team began later". */
    private static void longRestGivesBack() {
        Gangline world = Check.begun(3, 6);
        for (int team = 0; team < 6; team++) {
            world.run(team);
            Check.same("owed by team " + team, world.owed(team), 1440 + 2 * (5 - team));
            Check.same("long rest of team " + team, world.restLong(team), 1440 + 2 * (5 - team));
            Check.same("minutes are the same then", world.teamOf(team, 'm'), 10 + 144 + 1440);
        }
        Gangline one = Check.ready(3, 2);
        one.begin(0, 60);
        Check.same("owed by the only one", one.owed(0), 1440);
        one.run(0);
        one.begin(1, 60);
        Check.same("owed when another one began", one.owed(0), 1442);
        one.scratch(1);
        Check.same("the long rest then", one.restLong(0), 1442);
    }

    /** "Both do what camping does for their minutes divided by 60, cut": 1450 minutes are 24 hours, 480 are 8. */
    private static void restsAreHours() {
        Gangline tired = hungryTeam();
        Check.same("trust ahead of the rest", tired.dogOf(0, 't'), 0);
        tired.restMust(0);
        dogHas("trust behind 8 hours", tired, 2, 't');
        dogHas("feet behind 8 hours", tired, 50 + 16, 'f');
        Gangline longer = hungryTeam();
        Check.same("1450 minutes", longer.restLong(0), 1450);
        dogHas("trust behind 24 hours", longer, 6, 't');
        dogHas("feet behind 24 hours", longer, 50 + 48, 'f');
    }

    /** Team 0, of 6, at a checkpoint with a rest; feet of 50 and a trust of 0. */
    private static Gangline hungryTeam() {
        int[] rough = {6, 9, 0};
        Gangline world = trip(8, 0, new int[] {120, 9, 0}, rough, rough, rough, rough, flat(5));
        for (int team = 1; team < 6; team++) {
            Check.addTeam(world, 5, 8, 0);
        }
        world.must(5, true);
        for (int team = 0; team < 6; team++) {
            world.begin(team, 74);
        }
        for (int leg = 0; leg < 5; leg++) {
            world.cold(leg, -31);
            world.run(0);
        }
        Check.text("feet, food, water and trust", state(world), "50 0 28 0");
        return world;
    }

    /** "the checkpoint's rest of 480 minutes is another one, taken once there"; 'n' if none is here or it was taken. */
    private static void restOfACheckpointOnce() {
        int minute = atRest(false).teamOf(0, 'm');
        Check.same("the rest", atRest(false).restMust(0), minute + 480);
        Bounds.barred("the rest again", 0, 'n', Bounds.CANNOT, () -> atRest(true), x -> x.restMust(0));
        Bounds.barred("no rest here", 0, 'n', Bounds.CANNOT, () -> at(3, 1), x -> x.restMust(0));
        Bounds.barred("no rest at the first one", 0, 'n', Bounds.CANNOT, () -> at(3, 0), x -> x.restMust(0));
        Bounds.barred("a rest ahead", 0, 'n', Bounds.CANNOT, WayBoundsTest::restsAhead, x -> x.restMust(0));
        Gangline world = restsAhead();
        world.run(0);
        world.restMust(0);
        world.run(0);
        Check.letter("the rest of the one before does not count", barOf(world), 'm');
        Check.same("the rest of the next one", world.restMust(0) > 0 ? 1 : 0, 1);
        Check.same("the long rest behind both", world.restLong(0), 1440);
        Check.letter("then it can run", barOf(world), '-');
    }

    private static Gangline restsAhead() {
        Gangline world = Check.ready(4, 1);
        world.must(1, true);
        world.must(2, true);
        world.begin(0, 60);
        return world;
    }

    private static char barOf(Gangline world) {
        world.clear(0);
        world.order(0, 'r', 0);
        world.isAdmitted(0);
        world.clear(0);
        return world.why(0);
    }

    /** "Whoever comes to the finish without the long rest is out." */
    private static void finishWithoutTheLongRest() {
        Check.letter("without it", at(2, 2).raceOf(0), 'x');
        Check.same("no race is finished", at(2, 2).teamOf(0, 'f'), 0);
        Check.letter("a trail of 1 leg", at(1, 1).raceOf(0), 'x');
        Gangline world = at(2, 1);
        world.restLong(0);
        world.run(0);
        Check.letter("with it", world.raceOf(0), 'f');
        Check.same("a race is finished", world.teamOf(0, 'f'), 1);
        Check.same("it stands at the finish", world.teamOf(0, 'c'), 2);
        Gangline only = Check.ready(2, 1);
        only.must(1, true);
        only.begin(0, 60);
        only.run(0);
        only.restMust(0);
        only.run(0);
        Check.letter("with that of the checkpoint alone", only.raceOf(0), 'x');
    }

    /** "how many, 1 to 300"; "there it can take them onto the sled, however many it carries": "if there are not so
     * many". */
    private static void takeWhatWasSent() {
        Check.same("all 300", sentAndThere(300).take(0, 300), 300);
        Check.same("all but one", sentAndThere(300).take(0, 299), 299);
        Bounds.barred("one more than was sent", 0, 'k', Bounds.FULL, () -> sentAndThere(299), x -> x.take(0, 300));
        Bounds.barred("what another one sent", 1, 'k', Bounds.FULL, () -> sentAndThere(299), x -> x.take(1, 1));
        Gangline twice = sentAndThere(30);
        twice.take(0, 20);
        Check.text("11 of 10 left throws", Bounds.thrownBy(twice, x -> x.take(0, 11)), "IllegalStateException");
        Check.same("the last 10", twice.take(0, 10), 30);
        Check.text("1 of none left throws", Bounds.thrownBy(twice, x -> x.take(0, 1)), "IllegalStateException");
        Check.letter("why", twice.why(0), 'k');
        Gangline full = Check.ready(2, 1);
        full.send(0, 1, 300);
        full.begin(0, 200);
        full.run(0);
        Check.same("however many it carries", full.take(0, 300), 500);
        Bounds.barred("none at the first one", 0, 'k', Bounds.FULL, () -> Check.begun(2, 1), x -> x.take(0, 1));
    }

    /** "the kilos for each dog, 1 to 3": "if it carries not enough"; "To feed takes 30 minutes". */
    private static void feedWhatIsCarried() {
        for (int kilos = 1; kilos <= 3; kilos++) {
            int each = kilos;
            Check.same("just enough for " + each, carrying(5 * each).feed(0, each), 0);
            Check.same("one more than enough for " + each, carrying(5 * each + 1).feed(0, each), 1);
            Bounds.barred("one too few for " + each, 0, 'k', Bounds.FULL, () -> carrying(5 * each - 1),
                x -> x.feed(0, each));
            Gangline world = carrying(15);
            world.feed(0, each);
            Check.same("minutes", world.teamOf(0, 'm'), 30);
        }
        Bounds.barred("none", 0, 'k', Bounds.FULL, () -> carrying(0), x -> x.feed(0, 1));
        Gangline four = carrying(12);
        four.drop(0, 0);
        Check.same("3 for each of 4", four.feed(0, 3), 0);
        Gangline many = Check.trail(2);
        Check.addTeam(many, 14, 8, 3);
        many.begin(0, 42);
        Check.same("3 for each of 14", many.feed(0, 3), 0);
        Bounds.barred("3 for each of 14, one too few", 0, 'k', Bounds.FULL, () -> {
            Gangline world = Check.trail(2);
            Check.addTeam(world, 14, 8, 3);
            world.begin(0, 41);
            return world;
        }, x -> x.feed(0, 3));
    }

    private static Gangline carrying(int kilos) {
        Gangline world = Check.ready(2, 1);
        world.begin(0, kilos);
        return world;
    }

    /** "food is 30 more for each kilo, water 10, up to 100"; "water is 40 more". */
    private static void foodAndWaterUpToHundred() {
        Check.text("as it comes", state(eaten(0, 0)), "100 21 40 5");
        Check.text("1 kilo", state(eaten(1, 0)), "100 51 50 5");
        Check.text("2 kilos", state(eaten(2, 0)), "100 81 60 5");
        Check.text("3 kilos, food up to 100", state(eaten(3, 0)), "100 100 70 5");
        Check.text("snow", state(eaten(0, 1)), "100 21 80 5");
        Check.text("snow twice, water up to 100", state(eaten(0, 2)), "100 21 100 5");
        Check.text("2 kilos and snow make 100", state(eaten(2, 1)), "100 81 100 5");
        Check.text("3 kilos and snow", state(eaten(3, 1)), "100 100 100 5");
        Gangline close = trip(8, 3, flat(5), flat(5));
        close.begin(0, 20);
        close.run(0);
        Check.text("98", state(close), "100 97 98 5");
        close.feed(0, 1);
        Check.text("up to 100 from 97 and 98", state(close), "100 100 100 5");
        Check.same("melting takes 45 minutes", Check.begun(2, 1).melt(0), 45);
    }

    private static Gangline eaten(int kilos, int snow) {
        Gangline world = behind(120, 0, -10, 70, false);
        if (kilos > 0) {
            world.feed(0, kilos);
        }
        for (int i = 0; i < snow; i++) {
            world.melt(0);
        }
        return world;
    }

    /** "how many, 1 to 200"; "if both are the same, or not at the same checkpoint"; "if it carries not enough". */
    private static void giveAtTheSameCheckpoint() {
        Check.same("all that it carries", Check.begun(3, 2).give(0, 1, 60), 120);
        Bounds.refused("one more", Bounds.FULL, () -> Check.begun(3, 2), x -> x.give(0, 1, 61));
        Bounds.refused("200 of 60", Bounds.FULL, () -> Check.begun(3, 2), x -> x.give(0, 1, 200));
        Gangline heavy = Check.ready(3, 2);
        heavy.begin(0, 200);
        heavy.begin(1, 200);
        Check.same("200, however many the other one carries", heavy.give(0, 1, 200), 400);
        Check.same("none are left", heavy.teamOf(0, 'k'), 0);
        Bounds.refused("give to itself", Bounds.CANNOT, () -> Check.begun(3, 2), x -> x.give(0, 0, 1));
        Bounds.refused("give too much to itself", Bounds.CANNOT, () -> Check.begun(3, 2), x -> x.give(0, 0, 61));
        Bounds.refused("give ahead", Bounds.CANNOT, WayBoundsTest::oneAhead, x -> x.give(0, 1, 1));
        Bounds.refused("give back", Bounds.CANNOT, WayBoundsTest::oneAhead, x -> x.give(1, 0, 1));
        Bounds.refused("give too much back", Bounds.CANNOT, WayBoundsTest::oneAhead, x -> x.give(1, 0, 200));
        Gangline again = oneAhead();
        again.run(0);
        Check.same("give where both are", again.give(0, 1, 1), 61);
        Bounds.refused("give to one that has not begun", Bounds.CANNOT, Bounds::halted, x -> x.give(0, 2, 1));
        Bounds.refused("give at the finish", Bounds.CANNOT, () -> {
            Gangline world = Check.begun(1, 2);
            world.run(0);
            world.run(1);
            return world;
        }, x -> x.give(0, 1, 1));
    }

    private static Gangline oneAhead() {
        Gangline world = Check.begun(3, 2);
        world.run(1);
        return world;
    }

    /** "costs a penalty of 120 minutes each time; the second time the team is out". */
    private static void helpTwice() {
        Gangline world = Check.begun(2, 2);
        String before = world.dogOf(0, 'e') + " " + world.teamOf(0, 'k') + " " + world.teamOf(0, 'm');
        Check.same("the first time", world.help(0), 120);
        Check.text("still on its way", world.raceOf(0) + "" + world.stateOf(0), "rr");
        Check.same("the second time", world.help(0), 240);
        Check.text("out", world.raceOf(0) + "" + world.stateOf(0), "xd");
        Check.same("owed", world.owed(0), 240);
        Check.text("it brings nothing", world.dogOf(0, 'e') + " " + world.teamOf(0, 'k') + " "
            + world.teamOf(0, 'm'), before);
        Bounds.refused("a third time", Bounds.CANNOT, WayBoundsTest::helpedTwice, x -> x.help(0));
        Check.same("another one's first time", helpedTwice().help(1), 120);
        Gangline later = helpedTwice();
        later.scratch(1);
        later.endYear();
        for (int dog = 0; dog < 5; dog++) {
            later.hitch(0, dog);
        }
        later.begin(0, 0);
        Check.same("the first time of the next year", later.help(0), 120);
        Check.letter("and on its way", later.raceOf(0), 'r');
    }

    private static Gangline helpedTwice() {
        Gangline world = Check.begun(2, 2);
        world.help(0);
        world.help(0);
        return world;
    }

    /** "takes away 3 breaks, or all"; "To mend takes 60 minutes and a part". */
    private static void mendThreeBreaks() {
        int[] left = {0, 0, 0, 0, 1, 2};
        for (int breaks = 0; breaks <= 5; breaks++) {
            Gangline world = broken(breaks);
            int minute = world.teamOf(0, 'm');
            Check.same("mend of " + breaks + " breaks", world.mend(0), left[breaks]);
            Check.same("minutes", world.teamOf(0, 'm'), minute + 60);
            Check.same("parts", world.teamOf(0, 'p'), 2);
            Check.letter("why", world.why(0), '-');
        }
    }

    /** A team behind 5 legs, so many of which broke the sled. */
    private static Gangline broken(int breaks) {
        Gangline world = new Gangline();
        for (int leg = 0; leg < 6; leg++) {
            world.leg(5, 0, leg < breaks ? -6 : -5);
        }
        Check.addTeam(world, 5, 8, 3);
        world.begin(0, 0);
        for (int leg = 0; leg < 5; leg++) {
            world.run(0);
        }
        Check.same("breaks", world.teamOf(0, 'b'), breaks);
        return world;
    }

    /** "3 parts": "if there is no part", told as 'p'. */
    private static void partsAreThree() {
        for (int used = 0; used < 3; used++) {
            Check.same("parts left", withoutParts(used).teamOf(0, 'p'), 3 - used);
            Check.same("mend with parts", withoutParts(used).mend(0), 0);
        }
        Check.same("no parts left", withoutParts(3).teamOf(0, 'p'), 0);
        Bounds.barred("mend without parts", 0, 'p', Bounds.FULL, () -> withoutParts(3), x -> x.mend(0));
        Bounds.barred("mend without parts when out", 0, 'n', Bounds.CANNOT, () -> {
            Gangline world = withoutParts(3);
            world.scratch(0);
            return world;
        }, x -> x.mend(0));
        Check.same("exchange without parts", withoutParts(3).exchange(0), 1);
    }

    private static Gangline withoutParts(int used) {
        Gangline world = Check.begun(2, 1);
        for (int i = 0; i < used; i++) {
            world.mend(0);
        }
        return world;
    }

    /** "A sled can be exchanged twice: it is whole then": "if it was exchanged twice", told as 'p'. */
    private static void exchangeTwice() {
        Gangline world = broken(5);
        int minute = world.teamOf(0, 'm');
        Check.same("the first time", world.exchange(0), 1);
        Check.same("it is whole", world.teamOf(0, 'b'), 0);
        Check.same("the second time", world.exchange(0), 0);
        Check.same("it takes no time", world.teamOf(0, 'm'), minute);
        Bounds.barred("the third time", 0, 'p', Bounds.FULL, WayBoundsTest::exchanged, x -> x.exchange(0));
        Bounds.barred("the third time when out", 0, 'n', Bounds.CANNOT, () -> {
            Gangline out = exchanged();
            out.scratch(0);
            return out;
        }, x -> x.exchange(0));
        Check.same("mend of an exchanged one", exchanged().mend(0), 0);
        Check.same("another one's first time", exchanged().exchange(1), 1);
    }

    private static Gangline exchanged() {
        Gangline world = Check.begun(2, 2);
        world.exchange(0);
        world.exchange(0);
        return world;
    }

    /** "or has not this dog with it"; "Returns how many dogs are left"; "it does not return in this race". */
    private static void dropEachDog() {
        Gangline world = Check.begun(3, 2);
        for (int left = 4; left >= 0; left--) {
            Check.same("drop", world.drop(0, left), left);
            Check.letter("dropped", world.stateOf(left), 'd');
        }
        Check.letter("on its way without dogs", world.raceOf(0), 'r');
        Bounds.refused("drop of a dropped dog", Bounds.CANNOT, WayBoundsTest::dropped, x -> x.drop(0, 2));
        Bounds.refused("drop of another's dog", Bounds.CANNOT, WayBoundsTest::dropped, x -> x.drop(0, 5));
        Bounds.refused("drop of a dog in the kennel", Bounds.CANNOT, WayBoundsTest::dropped, x -> x.drop(0, 10));
        Bounds.refused("drop of a dog by another", Bounds.CANNOT, WayBoundsTest::dropped, x -> x.drop(1, 0));
        Bounds.refused("drop of a hitched dog", Bounds.CANNOT, () -> Check.ready(2, 1), x -> x.drop(0, 0));
        Bounds.refused("return of a dropped dog", Bounds.CANNOT, WayBoundsTest::dropped, x -> x.hitch(0, 2));
        Bounds.refused("return with another", Bounds.CANNOT, WayBoundsTest::dropped, x -> x.hitch(2, 2));
        Gangline later = Check.begun(3, 1);
        later.run(0);
        Check.same("drop at the next checkpoint", later.drop(0, 0), 4);
        later.scratch(0);
        later.endYear();
        Check.same("it returns in the next race", later.hitch(0, 0), 1);
    }

    /** Team 0 dropped dog 2, which is leased to team 2, which has not begun; dog 10 is in a kennel. */
    private static Gangline dropped() {
        Gangline world = Check.begun(3, 2);
        world.dog(0, 5, 5);
        world.team();
        world.drop(0, 2);
        world.lease(2, 2);
        return world;
    }

    /** "Returns whether it was on its way." */
    private static void scratchOnce() {
        Check.isNot("ahead of the beginning", () -> Check.ready(2, 1).scratch(0));
        Gangline world = Check.begun(2, 2);
        Check.is("on its way", () -> world.scratch(0));
        Check.letter("out", world.raceOf(0), 'x');
        Check.isNot("again", () -> world.scratch(0));
        Check.letter("another one is not", world.raceOf(1), 'r');
        Gangline finished = at(2, 1);
        finished.restLong(0);
        finished.run(0);
        Check.isNot("finished", () -> finished.scratch(0));
        Check.letter("and stays so", finished.raceOf(0), 'f');
    }
}
