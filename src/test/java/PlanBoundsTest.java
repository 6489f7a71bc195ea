/** The sentences with a bound of "Plans" and "Why", and of the promises 26 to 32. */
public final class PlanBoundsTest {
    private static final String KINDS = "rcfwblmd";

    public static void main(String[] args) {
        numbersOfTeams();
        lettersOfOrders();
        numbersOfOrders();
        twelveOrders();
        orderThrowsTheFirstListed();
        ordersInEachState();
        clearCounts();
        emptyPlanIsAdmitted();
        allCanBeDoneOneByOne();
        firstOrderThatCannotBeDone();
        bootsThatStayOff();
        finishByWhichTheTeamIsOut();
        noDogMustStopBehindAny();
        noneDies();
        numbersOfOrdersAreDone();
        forecastOfPlans();
        followEmptiesThePlan();
        followOfTwelveOrders();
        bestPlanBounds();
        bestPlanForAsManyLegsAsAreLeft();
        bestPlanCampsNothingThreeOrSixHours();
        bestPlanFeedsOneKiloIfItCan();
        bestPlanOfThoseWhoMustStop();
        bestPlanTakesTheFirstOfEqualOnes();
        whyAtFirstAndWhenDone();
        whyOfNumbersOutOfRange();
        whyIsLeftAloneByOthers();
        Check.end("PlanBoundsTest");
    }

    /** Puts the orders that the words tell behind the plan of team 0. */
    private static Gangline planned(Gangline world, String orders) {
        for (String word : orders.isEmpty() ? new String[0] : orders.split(" ")) {
            world.order(0, word.charAt(0), word.length() > 1 ? Integer.parseInt(word.substring(1)) : 0);
        }
        return world;
    }

    /** The letter that why() tells of the plan, by isAdmitted, forecast and follow alike; '-' if it is admitted. */
    private static void bar(String what, char due, Bounds.Maker maker, String orders) {
        Bounds.Maker with = () -> planned(maker.make(), orders);
        String name = what + ", plan " + orders;
        Gangline world = with.make();
        Check.same(name + " is admitted", world.isAdmitted(0) ? 1 : 0, due == '-' ? 1 : 0);
        Check.letter("why() of " + name, world.why(0), due);
        if (due != '-') {
            Bounds.barred("forecast of " + name, 0, due, Bounds.NONE, with, x -> x.forecast(0));
            Bounds.barred("follow of " + name, 0, due, Bounds.NONE, with, x -> x.follow(0));
            return;
        }
        Gangline followed = with.make();
        int before = followed.teamOf(0, 'm');
        int minutes = followed.forecast(0);
        Check.same("forecast of " + name, followed.follow(0), before + minutes);
        Check.letter("why() then", followed.why(0), '-');
    }

    /** "if there is no such team", ahead of all that is listed behind it. */
    private static void numbersOfTeams() {
        Bounds.index("order", 3, Bounds::rich, (x, team) -> x.order(team, 'x', 0));
        Bounds.index("order in range", 3, Bounds::rich, (x, team) -> x.order(team, 'r', 0));
        Bounds.index("clear", 3, Bounds::rich, (x, team) -> x.clear(team));
        Bounds.index("isAdmitted", 3, Bounds::rich, (x, team) -> x.isAdmitted(team) ? 1 : 0);
        Bounds.index("forecast", 3, Bounds::rich, (x, team) -> x.forecast(team));
        Bounds.index("follow", 3, Bounds::rich, (x, team) -> x.follow(team));
        Bounds.index("bestPlan", 3, Bounds::rich, (x, team) -> x.bestPlan(team, 0));
        Bounds.index("bestPlan in range", 3, Bounds::rich, (x, team) -> x.bestPlan(team, 1));
        Bounds.index("why", 3, Bounds::rich, (x, team) -> x.why(team));
    }

    /** "'r', 'c', 'f', 'w', 'b', 'l', 'm' or 'd'": of all letters that there are. */
    private static void lettersOfOrders() {
        for (int letter = 0; letter <= 65535; letter++) {
            char kind = (char) letter;
            Gangline world = new Gangline();
            world.team();
            Check.text("order " + letter + " throws", Bounds.thrownBy(world, x -> x.order(0, kind, 1)),
                KINDS.indexOf(kind) >= 0 ? "nothing" : "IllegalArgumentException");
        }
        for (char kind : "RCFWBLMDeknpstox-0".toCharArray()) {
            Bounds.refused("order " + kind, Bounds.BAD, Bounds::rich, x -> x.order(0, kind, 1));
        }
    }

    /** "for 'c' 1 to 30, 'f' 1 to 3, 'b' 0 or 1, 'd' 1 to 300; of no meaning for others". */
    private static void numbersOfOrders() {
        Bounds.range("order c", 1, 30, Bounds::rich, (x, number) -> x.order(0, 'c', number));
        Bounds.range("order f", 1, 3, Bounds::rich, (x, number) -> x.order(0, 'f', number));
        Bounds.range("order b", 0, 1, Bounds::rich, (x, number) -> x.order(0, 'b', number));
        Bounds.range("order d", 1, 300, Bounds::rich, (x, number) -> x.order(0, 'd', number));
        for (char kind : "rwlm".toCharArray()) {
            for (int number : new int[] {Integer.MIN_VALUE, -1, 0, 1, 301, Integer.MAX_VALUE}) {
                Check.same("order " + kind + " " + number, Bounds.rich().order(0, kind, number), 4);
            }
        }
    }

    /** "A plan of a team has at most 12 orders": "if it has 12". */
    private static void twelveOrders() {
        Gangline world = Check.begun(2, 2);
        for (int i = 1; i <= 12; i++) {
            Check.same("order " + i, world.order(0, 'w', 0), i);
        }
        for (char kind : KINDS.toCharArray()) {
            Bounds.refused("order 13, " + kind, Bounds.FULL, PlanBoundsTest::twelve, x -> x.order(0, kind, 1));
        }
        Check.same("the first one of another team", twelve().order(1, 'w', 0), 1);
        Gangline cleared = twelve();
        cleared.clear(0);
        Check.same("the first one again", cleared.order(0, 'w', 0), 1);
        Gangline followed = twelve();
        followed.follow(0);
        Check.same("the first one behind those followed", followed.order(0, 'w', 0), 1);
    }

    private static Gangline twelve() {
        Gangline world = Check.begun(2, 2);
        for (int i = 0; i < 12; i++) {
            world.order(0, 'w', 0);
        }
        return world;
    }

    /** "If several exceptions apply, the exception listed first is thrown": for order. */
    private static void orderThrowsTheFirstListed() {
        Bounds.refused("order x of no team", Bounds.OUT, PlanBoundsTest::twelve, x -> x.order(2, 'x', 0));
        Bounds.refused("order 13 of no team", Bounds.OUT, PlanBoundsTest::twelve, x -> x.order(-1, 'w', 0));
        Bounds.refused("order 13, x", Bounds.BAD, PlanBoundsTest::twelve, x -> x.order(0, 'x', 0));
        Bounds.refused("order 13, c of 0", Bounds.BAD, PlanBoundsTest::twelve, x -> x.order(0, 'c', 0));
        Bounds.refused("order 13, d of 301", Bounds.BAD, PlanBoundsTest::twelve, x -> x.order(0, 'd', 301));
    }

    /** A plan is made, and emptied, whether the team is on its way or not. */
    private static void ordersInEachState() {
        Check.same("ahead of the beginning", Check.ready(1, 1).order(0, 'r', 0), 1);
        Check.same("when out", Bounds.halted().order(0, 'r', 0), 4);
        Check.same("cleared when out", Bounds.halted().clear(0), 3);
        Gangline world = Check.ready(1, 1);
        world.order(0, 'r', 0);
        world.begin(0, 60);
        Check.same("what was put ahead of the beginning stays", world.follow(0), 144);
    }

    /** "Returns how many orders it had." */
    private static void clearCounts() {
        Check.same("of an empty one", Check.ready(1, 1).clear(0), 0);
        Check.same("of a full one", twelve().clear(0), 12);
        Gangline world = twelve();
        world.clear(0);
        Check.same("again", world.clear(0), 0);
        Check.same("of another team", Bounds.rich().clear(1), 1);
    }

    /** "Returns whether it is, also if it is empty." */
    private static void emptyPlanIsAdmitted() {
        Bounds.Maker[] makers = {() -> Check.ready(0, 1), () -> Check.ready(2, 1), () -> Check.begun(2, 1),
            PlanBoundsTest::out, PlanBoundsTest::finished, PlanBoundsTest::withoutFood, PlanBoundsTest::withoutDogs,
            PlanBoundsTest::dead};
        for (int i = 0; i < makers.length; i++) {
            Gangline world = makers[i].make();
            int minute = world.teamOf(0, 'm');
            Check.is("an empty plan, " + i, () -> world.isAdmitted(0));
            Check.letter("why", world.why(0), '-');
            Check.same("its forecast", world.forecast(0), 0);
            Check.same("it is followed", world.follow(0), minute);
            bar("state " + i, '-', makers[i], "");
        }
    }

    private static Gangline out() {
        Gangline world = Check.begun(2, 1);
        world.run(0);
        world.scratch(0);
        return world;
    }

    private static Gangline finished() {
        Gangline world = Check.begun(2, 1);
        world.run(0);
        world.restLong(0);
        world.run(0);
        return world;
    }

    private static Gangline withoutDogs() {
        Gangline world = Check.begun(2, 1);
        for (int dog = 0; dog < 5; dog++) {
            world.drop(0, dog);
        }
        return world;
    }

    /** A team on a flat trail of such legs. */
    private static Gangline trip(int kilos, int... lengths) {
        Gangline world = new Gangline();
        for (int length : lengths) {
            world.leg(length, 0, 0);
        }
        Check.addTeam(world, 5, 8, 3);
        world.begin(0, kilos);
        return world;
    }

    /** 120 * 165 / 200 and 1 are 100. */
    private static Gangline withoutFood() {
        Gangline world = trip(105, 120, 5, 5);
        world.run(0);
        Check.is("a dog must stop", () -> world.mustStop(4));
        return world;
    }

    private static Gangline dead() {
        Gangline world = trip(40, 120, 120, 5);
        world.run(0);
        world.run(0);
        Check.letter("dead", world.stateOf(0), 'x');
        return world;
    }

    /** "It is admitted if all can be done, one by one": what one order brings is there for the next one. */
    private static void allCanBeDoneOneByOne() {
        bar("kilos that are taken", '-', PlanBoundsTest::sentAhead, "r d15 f3");
        bar("one kilo too few", 'k', PlanBoundsTest::sentAhead, "r d14 f3");
        bar("one kilo more than was sent", 'k', PlanBoundsTest::sentAhead, "r d16");
        bar("all, then one more", 'k', PlanBoundsTest::sentAhead, "r d15 d1");
        bar("the rest, then the leg", '-', PlanBoundsTest::sentAhead, "r m r");
        bar("the leg without the rest", 'm', PlanBoundsTest::sentAhead, "r r");
        bar("the rest twice", 'n', PlanBoundsTest::sentAhead, "r m m");
        bar("the long rest at the first one", 'l', PlanBoundsTest::sentAhead, "l");
        bar("the long rest", '-', PlanBoundsTest::sentAhead, "r l");
        bar("the long rest twice", 'l', PlanBoundsTest::sentAhead, "r l l");
        bar("beyond the finish", 'n', PlanBoundsTest::sentAhead, "r m r r w");
        bar("up to the finish", '-', PlanBoundsTest::sentAhead, "r m r r");
    }

    private static Gangline sentAhead() {
        Gangline world = Check.ready(3, 1);
        world.must(1, true);
        world.send(0, 1, 15);
        world.begin(0, 0);
        return world;
    }

    /** "for a plan that is not admitted, that of the first order that cannot be done". */
    private static void firstOrderThatCannotBeDone() {
        bar("'l', then 'n'", 'l', PlanBoundsTest::sentAhead, "l m f1");
        bar("'n', then 'l'", 'n', PlanBoundsTest::sentAhead, "m l f1");
        bar("'k', then 'n'", 'k', PlanBoundsTest::sentAhead, "f1 m l");
        bar("at the end of 12", 'k', PlanBoundsTest::sentAhead, "w w w w w w w w w w w f1");
        bar("at the start of 12", 'k', PlanBoundsTest::sentAhead, "f1 w w w w w w w w w w w");
        for (char kind : KINDS.toCharArray()) {
            bar("not begun", 'n', () -> Check.ready(2, 1), kind + "1");
            bar("out", 'n', PlanBoundsTest::out, kind + "1");
            bar("finished", 'n', PlanBoundsTest::finished, kind + "1");
            bar("dead", 'n', PlanBoundsTest::dead, kind + "1");
        }
        bar("no dogs", 'd', PlanBoundsTest::withoutDogs, "w f3 r");
        bar("a storm", 'c', PlanBoundsTest::closed, "r");
        bar("a storm that is over", '-', PlanBoundsTest::closed, "c1 r");
    }

    private static Gangline closed() {
        Gangline world = Check.begun(2, 1);
        world.storm(0, 0, 0, 9);
        return world;
    }

    /** "boots that stay off ... included". */
    private static void bootsThatStayOff() {
        Bounds.Maker none = () -> {
            Gangline world = trip(0, 5, 5, 5, 5, 5, 5, 5, 5);
            world.boots(0, true);
            for (int leg = 0; leg < 6; leg++) {
                world.run(0);
            }
            return world;
        };
        Check.same("no boots are left", none.make().teamOf(0, 'o'), 0);
        bar("no boots are left", '-', none, "b1");
        bar("no boots are left", '-', none, "b0 b1 r b1");
        bar("the last ones are used", '-', () -> trip(0, 5, 5, 5, 5, 5, 5, 5, 5), "b1 r r r r r r b1 r");
    }

    /** "and a finish by which the team is out included". */
    private static void finishByWhichTheTeamIsOut() {
        bar("without the long rest", '-', () -> Check.begun(2, 1), "r r");
        Gangline world = planned(Check.begun(2, 1), "r r");
        world.follow(0);
        Check.letter("out", world.raceOf(0), 'x');
        bar("with the long rest", '-', () -> Check.begun(2, 1), "r l r");
        Gangline rested = planned(Check.begun(2, 1), "r l r");
        rested.follow(0);
        Check.letter("finished", rested.raceOf(0), 'f');
    }

    /** "no dog must stop behind any of them": feet below 15, food or water of 0, also if a later order mends it. */
    private static void noDogMustStopBehindAny() {
        bar("food of 1", '-', () -> trip(104, 120, 5, 5), "r");
        bar("food of 0", 's', () -> trip(105, 120, 5, 5), "r");
        bar("food of 0, fed then", 's', () -> trip(105, 120, 5, 5), "r f1");
        bar("water of 1", '-', () -> trip(0, 120, 79, 5), "r r");
        bar("water of 0", 's', () -> trip(0, 120, 80, 5), "r r");
        bar("water of 0, melted then", 's', () -> trip(0, 120, 80, 5), "r r w");
        bar("water of 0, melted ahead", '-', () -> trip(0, 120, 80, 5), "r w r");
        bar("food of 0 already", 's', PlanBoundsTest::withoutFood, "b0");
        bar("food of 0 already", 's', PlanBoundsTest::withoutFood, "w");
        bar("food of 0 already", 's', PlanBoundsTest::withoutFood, "r");
        bar("food of 0 already, fed first", '-', PlanBoundsTest::withoutFood, "f1");
        bar("food of 0 already, fed first", '-', PlanBoundsTest::withoutFood, "f1 r");
        bar("food of 0 already, fed too late", 's', PlanBoundsTest::withoutFood, "c1 f1");
        Bounds.Maker single = () -> {
            Gangline world = withoutFood();
            for (int dog = 1; dog < 5; dog++) {
                world.drop(0, dog);
            }
            return world;
        };
        bar("food of 0 of a single dog", 's', single, "b0");
        bar("food of 0 of a single dog, fed", '-', single, "f1");
        bar("feet of 15", '-', () -> sore(62), "r");
        bar("feet of 14", 's', () -> sore(67), "r");
        bar("feet of 14, camping then", 's', () -> sore(67), "r c1");
        bar("feet of 14, camping ahead", '-', () -> sore(67), "c1 r");
    }

    /** Feet of 31 ahead of a leg in the cold, of the worst surface: 9 * 62 / 50 and 5 are 16, 9 * 67 / 50 and 5 are 17. */
    private static Gangline sore(int length) {
        Gangline world = new Gangline();
        for (int leg = 0; leg < 4; leg++) {
            world.leg(leg == 3 ? length : 100, 9, 0);
            world.cold(leg, -31);
        }
        world.leg(5, 0, 0);
        Check.addTeam(world, 5, 8, 3);
        world.begin(0, 15);
        for (int leg = 0; leg < 3; leg++) {
            world.run(0);
            world.melt(0);
            if (leg == 0) {
                world.feed(0, 3);
            }
        }
        Check.same("feet", world.dogOf(0, 'f'), 31);
        return world;
    }

    /** "and none dies": food and water are both 0 behind a leg. */
    private static void noneDies() {
        // 119 take 96 of the food and 59 of the water, with 100 kilos; 81 or 82 take all of the food.
        bar("water of 1", 's', () -> trip(100, 119, 81, 5), "r r");
        bar("water of 0", 'x', () -> trip(100, 119, 82, 5), "r r");
        bar("water of 0, then melting", 'x', () -> trip(100, 119, 82, 5), "r r w");
        bar("water from snow", 's', () -> trip(100, 119, 82, 5), "r w r");
        bar("food of a kilo", 's', () -> trip(100, 119, 82, 5), "r f1 r");
        bar("food and water", '-', () -> trip(100, 119, 82, 5), "r f2 w r");
        bar("at the finish", 'x', () -> trip(100, 119, 82), "r l r");
        Gangline world = planned(trip(100, 119, 82, 5), "r r");
        world.isAdmitted(0);
        Check.letter("nobody died", world.stateOf(0), 'r');
        Check.letter("nor is the team out", world.raceOf(0), 'r');
    }

    /** The least and the greatest numbers of orders do as much as those of the calls. */
    private static void numbersOfOrdersAreDone() {
        Check.same("1 hour", planned(Check.begun(2, 1), "c1").forecast(0), 60);
        Check.same("30 hours", planned(Check.begun(2, 1), "c30").forecast(0), 1800);
        Check.same("feeding", planned(Check.begun(2, 1), "f3").forecast(0), 30);
        Check.same("melting", planned(Check.begun(2, 1), "w").forecast(0), 45);
        Check.same("boots", planned(Check.begun(2, 1), "b1 b0").forecast(0), 0);
        Gangline fed = planned(Check.begun(2, 1), "f1");
        fed.follow(0);
        Check.same("1 kilo for each", fed.teamOf(0, 'k'), 55);
        Gangline full = planned(Check.begun(2, 1), "f3");
        full.follow(0);
        Check.same("3 kilos for each", full.teamOf(0, 'k'), 45);
        Gangline sent = Check.ready(3, 1);
        sent.send(0, 1, 300);
        sent.begin(0, 200);
        planned(sent, "r d300").follow(0);
        Check.same("300 kilos", sent.teamOf(0, 'k'), 500);
        Gangline one = Check.ready(3, 1);
        one.send(0, 1, 300);
        one.begin(0, 200);
        planned(one, "r d1").follow(0);
        Check.same("1 kilo", one.teamOf(0, 'k'), 201);
        Gangline shod = planned(trip(0, 5, 5, 5, 5), "b1 r r b0 r");
        shod.follow(0);
        Check.same("boots for two legs", shod.teamOf(0, 'o'), 4);
    }

    /** "Returns the minutes": none is taken from the minute at which the team is. */
    private static void forecastOfPlans() {
        Gangline world = Check.begun(3, 2);
        world.run(1);
        world.order(1, 'w', 0);
        Check.same("from a later minute", world.forecast(1), 45);
        Check.same("again, for nothing was done", world.forecast(1), 45);
        Check.same("the minute", world.teamOf(1, 'm'), 146);
        world.order(1, 'l', 0);
        Check.same("with the long rest of the last one", world.forecast(1), 45 + 1440);
        world.order(0, 'r', 0);
        world.order(0, 'l', 0);
        Check.same("with the long rest of the first one", world.forecast(0), 144 + 1442);
    }

    /** "Follows the plan": "the plan is empty then". */
    private static void followEmptiesThePlan() {
        Gangline world = planned(Check.begun(2, 2), "w c1");
        world.order(1, 'w', 0);
        Check.same("the minute then", world.follow(0), 105);
        Check.same("it is empty", world.clear(0), 0);
        Check.same("another one's is not", world.clear(1), 1);
        Check.same("following an empty one", world.follow(0), 105);
        Gangline barred = planned(Check.begun(2, 1), "w l");
        Check.text("one that is not admitted", Bounds.thrownBy(barred, x -> x.follow(0)), "NoSuchElementException");
        Check.same("stays", barred.clear(0), 2);
        Check.same("and nothing of it is done", barred.teamOf(0, 'm'), 0);
    }

    /** All of 12 orders are done. */
    private static void followOfTwelveOrders() {
        Check.same("12 times melting", twelve().forecast(0), 12 * 45);
        Check.same("is followed", twelve().follow(0), 12 * 45);
        Gangline eleven = Check.begun(2, 1);
        for (int i = 0; i < 11; i++) {
            eleven.order(0, 'w', 0);
        }
        eleven.order(0, 'l', 0);
        Check.isNot("the last one of 12 cannot be done", () -> eleven.isAdmitted(0));
    }

    /** "how many, 1 to 3": "if a number or letter is out of range", ahead of "if none is admitted". */
    private static void bestPlanBounds() {
        Bounds.range("best plan for", 1, 3, () -> Check.begun(4, 1), (x, legs) -> x.bestPlan(0, legs));
        Bounds.refused("best plan for 4 when out", Bounds.BAD, Bounds::halted, x -> x.bestPlan(0, 4));
        Bounds.refused("best plan for 0 when out", Bounds.BAD, Bounds::halted, x -> x.bestPlan(0, 0));
        Bounds.refused("best plan for 0 of no team", Bounds.OUT, Bounds::rich, x -> x.bestPlan(4, 0));
        Bounds.refused("best plan when out", Bounds.NONE, Bounds::halted, x -> x.bestPlan(0, 1));
        Bounds.refused("best plan ahead of the beginning", Bounds.NONE, Bounds::rich, x -> x.bestPlan(2, 1));
        Bounds.refused("best plan at the finish", Bounds.NONE, PlanBoundsTest::finished, x -> x.bestPlan(0, 1));
        Bounds.refused("best plan without dogs", Bounds.NONE, PlanBoundsTest::withoutDogs, x -> x.bestPlan(0, 1));
        Bounds.refused("best plan of the dead", Bounds.NONE, PlanBoundsTest::dead, x -> x.bestPlan(0, 1));
        Bounds.refused("best plan beyond a rest", Bounds.NONE, PlanBoundsTest::sentAhead, x -> x.bestPlan(0, 2));
        Check.same("best plan ahead of a rest", sentAhead().bestPlan(0, 1), 1);
    }

    /** "with all these legs". */
    private static void bestPlanForAsManyLegsAsAreLeft() {
        for (int left = 1; left <= 3; left++) {
            int legs = left;
            Gangline world = Check.begun(legs, 1);
            Check.same("as many as are left", world.bestPlan(0, legs) >= legs ? 1 : 0, 1);
            world.follow(0);
            Check.same("its checkpoint then", world.teamOf(0, 'c'), legs);
            if (legs < 3) {
                Bounds.refused("one more than is left", Bounds.NONE, () -> Check.begun(legs, 1),
                    x -> x.bestPlan(0, legs + 1));
            }
        }
        Gangline long10 = Check.begun(10, 1);
        long10.bestPlan(0, 3);
        long10.follow(0);
        Check.same("3 of 10", long10.teamOf(0, 'c'), 3);
    }

    /** "first nothing, or 3 or 6 hours of camping": a storm of 9 in the first hours asks for them. */
    private static void bestPlanCampsNothingThreeOrSixHours() {
        int[][] due = {{-1, 0}, {0, 180}, {2, 180}, {3, 360}, {5, 360}};
        for (int[] row : due) {
            Gangline world = stormyUntil(row[0]);
            Check.same("orders with a storm until " + row[0], world.bestPlan(0, 1), row[1] == 0 ? 1 : 2);
            Check.same("minutes", world.forecast(0), row[1] + 144);
        }
        Bounds.refused("a storm until 6", Bounds.NONE, () -> stormyUntil(6), x -> x.bestPlan(0, 1));
    }

    private static Gangline stormyUntil(int hour) {
        Gangline world = Check.begun(3, 1);
        if (hour >= 0) {
            world.storm(0, 0, hour, 9);
        }
        return world;
    }

    /** "then feeding 1 kilo or not": it can be needed, and it needs a kilo for each dog. */
    private static void bestPlanFeedsOneKiloIfItCan() {
        // Food of 9: 25 * 64 / 200 and 1 are 9, with 4 kilos; with 5 of them it is fed ahead of the leg.
        Bounds.refused("with 4 kilos for 5 dogs", Bounds.NONE, () -> hungry(4), x -> x.bestPlan(0, 1));
        for (int kilos : new int[] {5, 6}) {
            Gangline world = hungry(kilos);
            Check.same("orders with kilos for 5 dogs", world.bestPlan(0, 1), 2);
            world.follow(0);
            Check.same("kilos then", world.teamOf(0, 'k'), kilos - 5);
        }
    }

    /** A team at checkpoint 1 with food of 9, which has so many of 90 kilos left. */
    private static Gangline hungry(int kilos) {
        Gangline world = new Gangline();
        world.leg(120, 0, 0);
        world.leg(25, 0, 0);
        world.leg(5, 0, 0);
        for (int team = 0; team < 2; team++) {
            Check.addTeam(world, 5, 8, 3);
            world.begin(team, 90);
            world.run(team);
        }
        world.give(0, 1, 90 - kilos);
        Check.same("food", world.dogOf(0, 'e'), 9);
        return world;
    }

    /** "first nothing, or 3 or 6 hours of camping, then feeding": a dog that must stop can be mended ahead of the leg. */
    private static void bestPlanOfThoseWhoMustStop() {
        Gangline fed = withoutFood();
        Check.same("food of 0: feeding first", fed.bestPlan(0, 1), 2);
        fed.follow(0);
        Check.same("1 kilo for each", fed.teamOf(0, 'k'), 100);
        Bounds.refused("water of 0, no kilos", Bounds.NONE, () -> thirsty(0), x -> x.bestPlan(0, 1));
        Check.same("water of 0, with kilos", thirsty(30).bestPlan(0, 1), 2);
        Bounds.refused("food of 0, and a storm that asks for camping first", Bounds.NONE, () -> {
            Gangline world = withoutFood();
            world.storm(1, 0, 9, 9);
            return world;
        }, x -> x.bestPlan(0, 1));
        Gangline rested = sore(67);
        rested.run(0);
        Check.same("feet of 14", rested.dogOf(0, 'f'), 14);
        Check.same("camping first", rested.bestPlan(0, 1), 2);
        rested.follow(0);
        Check.same("feet then", rested.dogOf(0, 'f'), 20);
    }

    /** Water of 0 at checkpoint 2 of 3. */
    private static Gangline thirsty(int kilos) {
        Gangline world = trip(kilos, 120, 80, 5);
        world.run(0);
        world.run(0);
        Check.same("water", world.dogOf(0, 'w'), 0);
        Check.letter("it lives", world.stateOf(0), 'r');
        return world;
    }

    /** "of several the first one, by the first leg first, less camping ahead of more". */
    private static void bestPlanTakesTheFirstOfEqualOnes() {
        // A storm closes the second leg in the hours 0 to 6: 6 hours ahead of either leg come equally early.
        Gangline world = Check.ready(3, 1);
        world.storm(1, 0, 6, 9);
        world.begin(0, 0);
        Check.same("orders", world.bestPlan(0, 2), 3);
        world.follow(0);
        Gangline later = Check.ready(3, 1);
        later.storm(1, 0, 6, 9);
        later.begin(0, 0);
        later.run(0);
        later.camp(0, 6);
        later.run(0);
        Check.text("camping at the second leg, not at the first", Check.stateOf(world, true),
            Check.stateOf(later, true));
    }

    /** "'-' at first, and when it was done". */
    private static void whyAtFirstAndWhenDone() {
        Check.letter("at first", Check.ready(2, 1).why(0), '-');
        Gangline world = Check.ready(4, 1);
        world.must(1, true);
        world.send(0, 1, 10);
        world.begin(0, 60);
        Bounds.Call[] done = {x -> x.run(0), x -> x.camp(0, 1), x -> x.restLong(0), x -> x.restMust(0),
            x -> x.take(0, 1), x -> x.feed(0, 1), x -> x.melt(0), x -> x.boots(0, true), x -> x.boots(0, false),
            x -> x.mend(0), x -> x.exchange(0), x -> x.isAdmitted(0), x -> x.forecast(0), x -> x.follow(0)};
        for (int i = 0; i < done.length; i++) {
            Bounds.thrownBy(world, x -> x.take(0, 300));
            Check.letter("ahead of call " + i, world.why(0), 'k');
            Check.text("call " + i + " throws", Bounds.thrownBy(world, done[i]), "nothing");
            Check.letter("behind call " + i, world.why(0), '-');
        }
    }

    /** "the last one of a team, whose numbers were in range". */
    private static void whyOfNumbersOutOfRange() {
        Gangline world = Check.begun(3, 2);
        Bounds.thrownBy(world, x -> x.restLong(0));
        Bounds.Call[] bad = {x -> x.camp(0, 0), x -> x.camp(0, 31), x -> x.take(0, 0), x -> x.take(0, 301),
            x -> x.feed(0, 0), x -> x.feed(0, 4), x -> x.bestPlan(0, 4), x -> x.run(2), x -> x.run(-1)};
        for (int i = 0; i < bad.length; i++) {
            Check.text("call " + i + " is refused", "" + !Bounds.thrownBy(world, bad[i]).equals("nothing"), "true");
            Check.letter("why() behind it", world.why(0), 'l');
            Check.letter("why() of another", world.why(1), '-');
        }
        Gangline fine = Check.begun(3, 1);
        fine.camp(0, 1);
        Bounds.thrownBy(fine, x -> x.camp(0, 31));
        Check.letter("why() behind one that was done", fine.why(0), '-');
    }

    /** Calls that are not in the list leave what why() tells; so does the end of a year. */
    private static void whyIsLeftAloneByOthers() {
        Gangline world = Check.begun(3, 3);
        world.dog(2, 5, 5);
        Bounds.thrownBy(world, x -> x.restLong(0));
        Check.same("a best plan is made", world.bestPlan(0, 2) > 0 ? 1 : 0, 1);
        Check.letter("why() behind it", world.why(0), 'l');
        Bounds.Call[] others = {x -> x.give(0, 1, 1), x -> x.give(0, 0, 1), x -> x.help(0), x -> x.drop(0, 0),
            x -> x.drop(0, 9), x -> x.order(0, 'w', 0), x -> x.clear(0), x -> x.bestPlan(1, 1), x -> x.bestPlan(0, 1),
            x -> x.why(0), x -> x.dogOf(0, 'f'), x -> x.teamOf(0, 'm'), x -> x.raceOf(0), x -> x.owed(0),
            x -> x.standing(0), x -> x.estimate(0), x -> x.isTrue(), x -> x.begin(0, 0), x -> x.send(0, 1, 1),
            x -> x.hitch(0, 15), x -> x.lease(15, 0), x -> x.run(1), x -> x.scratch(0), x -> x.scratch(1),
            x -> x.scratch(2), x -> x.estimate(0), x -> x.endYear()};
        for (int i = 0; i < others.length; i++) {
            Bounds.thrownBy(world, others[i]);
            Check.letter("why() behind call " + i, world.why(0), 'l');
        }
        Check.same("the year ended", world.endYear(), 2);
        Check.letter("why() two years later", world.why(0), 'l');
    }
}
