import java.util.NoSuchElementException;

/** Promises 26 to 32: plans, their search, and why. */
public final class PlanTest {
    public static void main(String[] args) {
        nobodyThere();
        order();
        clear();
        isAdmitted();
        barsOfOrders();
        stopsAndDeaths();
        deathIsTold();
        bootsAndFinish();
        forecast();
        follow();
        followLikeSingleCalls();
        followToTheFinish();
        bestPlan();
        bestPlanAgainstAll();
        bestPlanOfEqualOnes();
        bestPlanOfEachChoice();
        trialIsLikeTheTeam();
        noBestPlan();
        why();
        Check.end("PlanTest");
    }

    private static void nobodyThere() {
        Gangline world = Check.begun(2, 1);
        for (int team : new int[] {-1, 1, Integer.MIN_VALUE, Integer.MAX_VALUE}) {
            Check.out(world, "order", () -> world.order(team, 'x', 0));
            Check.out(world, "clear", () -> world.clear(team));
            Check.out(world, "isAdmitted", () -> world.isAdmitted(team));
            Check.out(world, "forecast", () -> world.forecast(team));
            Check.out(world, "follow", () -> world.follow(team));
            Check.out(world, "bestPlan", () -> world.bestPlan(team, 0));
            Check.out(world, "why", () -> world.why(team));
        }
    }

    private static void order() {
        Gangline world = Check.begun(2, 1);
        Object[][] bad = {{'c', 0}, {'c', 31}, {'f', 0}, {'f', 4}, {'b', -1}, {'b', 2}, {'d', 0}, {'d', 301},
            {'x', 1}, {'R', 1}, {(char) 0, 1}, {(char) 65535, 1}};
        for (Object[] row : bad) {
            Check.bad(world, "order " + row[0] + row[1], () -> world.order(0, (char) row[0], (int) row[1]));
        }
        Object[][] good = {{'c', 1}, {'c', 30}, {'f', 1}, {'f', 3}, {'b', 0}, {'b', 1}, {'d', 1}, {'d', 300},
            {'r', -7}, {'w', 99}, {'l', Integer.MAX_VALUE}, {'m', Integer.MIN_VALUE}};
        for (int i = 0; i < 12; i++) {
            Check.same("order " + good[i][0] + good[i][1], world.order(0, (char) good[i][0], (int) good[i][1]), i + 1);
        }
        Check.full(world, "a 13th order", () -> world.order(0, 'r', 0));
        Check.bad(world, "a 13th order out of range", () -> world.order(0, 'c', 0));
        Gangline idle = Check.ready(1, 1);
        Check.same("order ahead of the beginning", idle.order(0, 'r', 0), 1);
    }

    private static void clear() {
        Gangline world = Check.ready(1, 2);
        Check.same("clear of nothing", world.clear(0), 0);
        world.order(0, 'r', 0);
        world.order(0, 'w', 0);
        world.order(1, 'w', 0);
        Check.same("clear", world.clear(0), 2);
        Check.same("clear again", world.clear(0), 0);
        Check.same("order then", world.order(0, 'r', 0), 1);
        world.endYear();
        Check.same("plans go with the year", world.clear(0), 0);
        Check.same("another's plan too", world.clear(1), 0);
    }

    private static void isAdmitted() {
        Gangline world = Check.begun(3, 1);
        Check.is("an empty plan", () -> world.isAdmitted(0));
        world.order(0, 'r', 0);
        world.order(0, 'l', 0);
        world.order(0, 'r', 0);
        String before = Check.stateOf(world, true);
        Check.is("a plan", () -> world.isAdmitted(0));
        Check.text("nothing is done", Check.stateOf(world, true), before);
        Check.letter("why", world.why(0), '-');
        world.order(0, 'l', 0);
        Check.isNot("a plan with two long rests", () -> world.isAdmitted(0));
        Check.letter("why then", world.why(0), 'l');
        Check.same("the plan stays", world.clear(0), 4);
        Check.is("an empty plan again", () -> world.isAdmitted(0));
        Check.letter("why at last", world.why(0), '-');
    }

    private static void barsOfOrders() {
        Gangline world = Check.ready(3, 1);
        world.must(1, true);
        world.send(0, 1, 20);
        world.order(0, 'w', 0);
        planBar(world, 'n', "melt ahead of the beginning");
        world.begin(0, 9);
        world.clear(0);
        bar(world, 'l', "l");
        bar(world, 'n', "m");
        bar(world, 'k', "d1");
        bar(world, 'k', "f2");
        bar(world, 'k', "f1 f1");
        bar(world, 'm', "r r");
        bar(world, 'k', "r d21");
        bar(world, 'k', "r d20 d1");
        bar(world, 'n', "r m m");
        bar(world, 'l', "r l l");
        bar(world, 'n', "r l m r r w");
        bar(world, 'n', "m l");
        bar(world, 'l', "l m");
        bar(world, '-', "r d20 f3 f1 w b1 b0 m l c30 r r");
        world.storm(1, 0, 9999, 9);
        bar(world, 'm', "r r");
        bar(world, 'c', "r m r");
        world.drop(0, 0);
        bar(world, 'd', "r");
        bar(world, '-', "w");
        world.scratch(0);
        bar(world, 'n', "w");
        bar(world, '-', "");
    }

    /** Sets the plan that the words tell, and asks for the letter by all three calls. */
    private static void bar(Gangline world, char due, String orders) {
        world.clear(0);
        for (String word : orders.isEmpty() ? new String[0] : orders.split(" ")) {
            world.order(0, word.charAt(0), word.length() > 1 ? Integer.parseInt(word.substring(1)) : 0);
        }
        planBar(world, due, orders);
    }

    private static void planBar(Gangline world, char due, String orders) {
        Check.same("admitted: " + orders, world.isAdmitted(0) ? 1 : 0, due == '-' ? 1 : 0);
        Check.letter("why: " + orders, world.why(0), due);
        if (due != '-') {
            Check.barred(world, 0, due, "forecast: " + orders, NoSuchElementException.class, () -> world.forecast(0));
            Check.barred(world, 0, due, "follow: " + orders, NoSuchElementException.class, () -> world.follow(0));
        }
    }

    private static void stopsAndDeaths() {
        Gangline world = new Gangline();
        world.leg(120, 0, 0);
        world.leg(120, 0, 0);
        world.leg(5, 0, 0);
        Check.addTeam(world, 5, 8, 3);
        world.begin(0, 0);
        bar(world, 's', "r r");
        bar(world, 's', "r r w");
        bar(world, '-', "r w r");
        world.run(0);
        world.run(0);
        bar(world, 's', "c1");
        bar(world, 's', "b0");
        bar(world, '-', "w");
        bar(world, '-', "w r");
        Gangline sore = new Gangline();
        for (int i = 0; i < 5; i++) {
            sore.leg(100, 9, 0);
            sore.cold(i, -31);
        }
        Check.addTeam(sore, 5, 8, 3);
        sore.begin(0, 0);
        bar(sore, '-', "r w r w r");
        bar(sore, '-', "b1 r w r w r");
        sore.clear(0);
        for (int i = 0; i < 3; i++) {
            sore.melt(0);
            sore.run(0);
        }
        Check.same("feet", sore.dogOf(0, 'f'), 31);
        Check.same("food", sore.dogOf(0, 'e'), 7);
    }

    private static void deathIsTold() {
        Gangline world = new Gangline();
        world.leg(120, 0, 0);
        world.leg(120, 0, 0);
        world.leg(5, 0, 0);
        Check.addTeam(world, 5, 8, 3);
        world.begin(0, 40);
        bar(world, 'x', "r r");
        bar(world, 'x', "r r c1");
        bar(world, 's', "r w r");
        bar(world, 's', "r f1 r");
        bar(world, '-', "r f1 w r");
        Check.letter("nobody died", world.stateOf(0), 'r');
    }

    private static void bootsAndFinish() {
        Gangline world = new Gangline();
        for (int i = 0; i < 8; i++) {
            world.leg(5, 0, 0);
        }
        Check.addTeam(world, 5, 8, 3);
        world.begin(0, 0);
        bar(world, '-', "b1 r r r r r r b1 r r");
        Check.same("follow", world.follow(0), world.teamOf(0, 'm'));
        Check.letter("a finish by which the team is out", world.raceOf(0), 'x');
        Gangline worn = new Gangline();
        worn.leg(120, 0, 0);
        worn.leg(120, 0, 0);
        Check.addTeam(worn, 5, 8, 3);
        worn.begin(0, 0);
        bar(worn, 's', "r r");
        bar(worn, 's', "r l r");
    }

    private static void forecast() {
        Gangline world = Check.ready(3, 2);
        Check.same("forecast ahead of the beginning", world.forecast(0), 0);
        world.begin(1, 60);
        world.begin(0, 60);
        world.run(0);
        Check.same("forecast of nothing", world.forecast(0), 0);
        world.order(0, 'w', 0);
        world.order(0, 'f', 1);
        world.order(0, 'c', 2);
        world.order(0, 'l', 0);
        String before = Check.stateOf(world, true);
        Check.same("forecast", world.forecast(0), 45 + 30 + 120 + 1440);
        Check.text("nothing is done", Check.stateOf(world, true), before);
        world.clear(0);
        world.order(0, 'm', 0);
        Check.barred(world, 0, 'n', "forecast", NoSuchElementException.class, () -> world.forecast(0));
        world.clear(0);
        world.forecast(0);
        Check.letter("why then", world.why(0), '-');
    }

    private static void follow() {
        Gangline world = Check.begun(3, 1);
        Check.same("follow nothing", world.follow(0), 0);
        world.order(0, 'r', 0);
        world.order(0, 'c', 1);
        world.order(0, 'f', 1);
        Check.same("follow", world.follow(0), 144 + 60 + 30);
        Check.same("checkpoint", world.teamOf(0, 'c'), 1);
        Check.same("kilos", world.teamOf(0, 'k'), 55);
        Check.same("the plan is empty", world.clear(0), 0);
        world.order(0, 'l', 0);
        world.order(0, 'm', 0);
        Check.barred(world, 0, 'n', "follow", NoSuchElementException.class, () -> world.follow(0));
        Check.same("the plan stays", world.clear(0), 2);
        Check.same("follow nothing again", world.follow(0), 234);
        Check.letter("why then", world.why(0), '-');
        Check.same("the long rest was not taken", world.restLong(0), 1440);
    }

    private static void followLikeSingleCalls() {
        Gangline planned = legsForSearch();
        Gangline done = legsForSearch();
        for (Gangline world : new Gangline[] {planned, done}) {
            world.must(1, true);
            world.send(0, 1, 40);
            world.begin(0, 50);
        }
        for (String word : "b1 r m d30 f2 w l b0 c5 r r".split(" ")) {
            planned.order(0, word.charAt(0), word.length() > 1 ? Integer.parseInt(word.substring(1)) : 0);
        }
        int minutes = planned.forecast(0);
        done.boots(0, true);
        done.run(0);
        done.restMust(0);
        done.take(0, 30);
        done.feed(0, 2);
        done.melt(0);
        done.restLong(0);
        done.boots(0, false);
        done.camp(0, 5);
        done.run(0);
        done.run(0);
        Check.same("forecast", minutes, done.teamOf(0, 'm'));
        Check.same("follow", planned.follow(0), done.teamOf(0, 'm'));
        Check.text("all of it", Check.stateOf(planned, true), Check.stateOf(done, true));
    }

    private static void followToTheFinish() {
        Gangline world = Check.begun(2, 1);
        world.team();
        for (String word : "r l r".split(" ")) {
            world.order(0, word.charAt(0), 0);
        }
        world.follow(0);
        Check.letter("finished", world.raceOf(0), 'f');
        Check.same("races", world.teamOf(0, 'f'), 1);
        Check.letter("dog", world.stateOf(0), 'd');
        for (int i = 0; i < 5; i++) {
            world.hitch(1, world.dog(1, 5, 5));
        }
        Check.cannot(world, "begin behind a long rest of a plan", () -> world.begin(1, 0));
    }

    /** Legs and a team with which camping, feeding and neither can each be the best. */
    private static Gangline legsForSearch() {
        Gangline world = new Gangline();
        world.leg(60, 4, 2);
        world.leg(55, 6, -7);
        world.leg(70, 3, 1);
        world.leg(30, 1, 0);
        world.storm(1, 10, 22, 7);
        world.storm(2, 0, 60, 3);
        Check.addTeam(world, 6, 6, 2);
        return world;
    }

    private static void bestPlan() {
        Gangline world = legsForSearch();
        world.begin(0, 80);
        Check.bad(world, "best plan for 0 legs", () -> world.bestPlan(0, 0));
        Check.bad(world, "best plan for 4 legs", () -> world.bestPlan(0, 4));
        world.order(0, 'm', 0);
        world.isAdmitted(0);
        String before = Check.stateOf(world, true);
        int orders = world.bestPlan(0, 1);
        Check.text("nothing is done", Check.stateOf(world, true), before);
        Check.letter("why stays", world.why(0), 'n');
        Check.is("it is admitted", () -> world.isAdmitted(0));
        Check.same("orders", world.clear(0), orders);
        world.bestPlan(0, 2);
        world.follow(0);
        Check.same("with all these legs", world.teamOf(0, 'c'), 2);
    }

    private static void bestPlanAgainstAll() {
        for (int kilos = 0; kilos <= 120; kilos += 12) {
            for (int ahead = 0; ahead <= 2; ahead++) {
                Gangline world = legsForSearch();
                world.begin(0, kilos);
                for (int i = 0; i < ahead; i++) {
                    world.melt(0);
                    if (world.mustStop(0)) {
                        break;
                    }
                    world.run(0);
                }
                for (int legs = 1; legs <= 3; legs++) {
                    searchLike(world, legs, kilos + " kilos, " + ahead + " legs ahead");
                }
            }
        }
    }

    /** Tries all plans one by one, and compares the first of the earliest with what bestPlan made. */
    private static void searchLike(Gangline world, int legs, String where) {
        int codes = (int) Math.pow(6, legs);
        int earliest = Integer.MAX_VALUE;
        int best = -1;
        for (int code = 0; code < codes; code++) {
            int[] choices = choices(code, legs);
            putPlan(world, choices);
            if (world.isAdmitted(0) && world.forecast(0) < earliest) {
                earliest = world.forecast(0);
                best = code;
            }
        }
        world.clear(0);
        if (best < 0) {
            Check.refuses(world, "best plan, " + where, NoSuchElementException.class, () -> world.bestPlan(0, legs));
            return;
        }
        int orders = putPlan(world, choices(best, legs));
        Check.same("orders for " + legs + ", " + where, world.bestPlan(0, legs), orders);
        Check.same("forecast for " + legs + ", " + where, world.forecast(0), earliest);
        world.clear(0);
    }

    private static int[] choices(int code, int legs) {
        int[] choices = new int[legs];
        for (int i = legs - 1; i >= 0; i--) {
            choices[i] = code % 6;
            code /= 6;
        }
        return choices;
    }

    private static int putPlan(Gangline world, int[] choices) {
        world.clear(0);
        int orders = 0;
        for (int choice : choices) {
            if (choice >= 2) {
                orders = world.order(0, 'c', choice >= 4 ? 6 : 3);
            }
            if (choice % 2 == 1) {
                orders = world.order(0, 'f', 1);
            }
            orders = world.order(0, 'r', 0);
        }
        return orders;
    }

    /** A storm of 9 closes the second leg: 6 hours of camping ahead of it, or ahead of the first one, are as early. */
    private static void bestPlanOfEqualOnes() {
        Gangline world = stormyTrail();
        Check.same("orders", world.bestPlan(0, 2), 3);
        int minutes = world.forecast(0);
        world.follow(0);
        Gangline second = stormyTrail();
        second.run(0);
        second.camp(0, 6);
        second.run(0);
        Check.same("minutes", minutes, second.teamOf(0, 'm'));
        Check.text("camping at the second one", Check.stateOf(world, true), Check.stateOf(second, true));
        Gangline first = stormyTrail();
        first.camp(0, 6);
        first.run(0);
        first.run(0);
        Check.same("camping at the first one is as early", first.teamOf(0, 'm'), minutes);
        Check.same("but leaves less sleep", first.teamOf(0, 's') < second.teamOf(0, 's') ? 1 : 0, 1);
    }

    private static Gangline stormyTrail() {
        Gangline world = Check.ready(3, 1);
        world.storm(1, 0, 6, 9);
        world.begin(0, 0);
        return world;
    }

    /**
     * Each row: length of the first leg; length, surface and climb of the second one; kilos, strength, dogs; the last
     * hour of a storm of 9 on the second leg, or -1; the orders due for it. In the first rows two choices are as early.
     */
    private static void bestPlanOfEachChoice() {
        int[][] rows = {
            {63, 14, 3, 0, 6, 3, 6, -1, 1},
            {39, 93, 3, 0, 32, 2, 5, -1, 2},
            {23, 21, 0, 4, 137, 8, 7, 2, 2},
            {31, 8, 6, 2, 30, 3, 5, 9, 2},
            {39, 93, 3, 0, 32, 2, 5, 10, 3},
            {39, 93, 3, 0, 32, 2, 5, 13, 3},
        };
        for (int[] row : rows) {
            Gangline world = new Gangline();
            world.leg(row[0], 2, 0);
            world.leg(row[1], row[2], row[3]);
            world.leg(10, 0, 0);
            Check.addTeam(world, row[6], row[5], 0);
            if (row[7] >= 0) {
                world.storm(1, 0, row[7], 9);
            }
            world.begin(0, row[4]);
            world.run(0);
            Check.same("orders of the best", world.bestPlan(0, 1), row[8]);
            searchLike(world, 1, "row of " + row[0] + ", " + row[7]);
            searchLike(world, 2, "row of " + row[0] + ", " + row[7]);
        }
        Gangline closed = Check.begun(2, 1);
        closed.storm(0, 0, 7, 9);
        Check.refuses(closed, "9 hours of camping", NoSuchElementException.class, () -> closed.bestPlan(0, 1));
    }

    /** What a plan is tried on has the trust and the boots of the team, not those of a trial before. */
    private static void trialIsLikeTheTeam() {
        Gangline world = new Gangline();
        for (int i = 0; i < 4; i++) {
            world.leg(100, 9, 0);
            world.cold(i, -31);
        }
        world.leg(5, 0, 0);
        Check.addTeam(world, 5, 8, 3);
        world.begin(0, 75);
        for (int i = 0; i < 3; i++) {
            world.melt(0);
            world.feed(0, 3);
            world.run(0);
        }
        Check.same("feet", world.dogOf(0, 'f'), 31);
        world.melt(0);
        world.feed(0, 3);
        bar(world, 's', "r");
        world.boots(0, true);
        bar(world, '-', "r");
        world.boots(0, false);
        bar(world, 's', "r");
        bar(world, 's', "c3 r");
        bar(world, '-', "c4 r");
        world.camp(0, 3);
        bar(world, 's', "r");
        bar(world, '-', "c1 r");
        Gangline trusty = trailOfFeet(8);
        bar(trusty, '-', "c2 r");
        Gangline other = trailOfFeet(4);
        bar(other, 's', "c2 r");
    }

    /** Feet of 31 and a last leg that takes 23: with a trust of 7 or more 2 hours of camping are enough. */
    private static Gangline trailOfFeet(int hours) {
        Gangline world = new Gangline();
        for (int i = 0; i < 4; i++) {
            world.leg(100, 9, 0);
            world.cold(i, -31);
        }
        world.leg(5, 0, 0);
        Check.addTeam(world, 5, 8, 3);
        world.begin(0, 75);
        world.camp(0, hours);
        for (int i = 0; i < 3; i++) {
            world.melt(0);
            world.feed(0, 3);
            world.run(0);
        }
        world.melt(0);
        world.feed(0, 3);
        return world;
    }

    private static void noBestPlan() {
        Gangline world = Check.ready(3, 1);
        world.must(1, true);
        world.order(0, 'w', 0);
        Check.refusesQuietly(world, "ahead of the beginning", NoSuchElementException.class, () -> world.bestPlan(0, 1));
        world.begin(0, 60);
        Check.refusesQuietly(world, "beyond a rest", NoSuchElementException.class, () -> world.bestPlan(0, 2));
        Check.same("the plan stays", world.clear(0), 1);
        Check.same("ahead of a rest", world.bestPlan(0, 1), 1);
        world.follow(0);
        world.restMust(0);
        Check.refusesQuietly(world, "more legs than are left", NoSuchElementException.class, () -> world.bestPlan(0, 3));
        Check.same("as many as are left", world.bestPlan(0, 2) >= 2 ? 1 : 0, 1);
        world.drop(0, 0);
        Check.refusesQuietly(world, "with 4 dogs", NoSuchElementException.class, () -> world.bestPlan(0, 1));
    }

    private static void why() {
        Gangline world = Check.begun(3, 2);
        Check.letter("at first", world.why(0), '-');
        Check.barred(world, 0, 'l', "restLong", () -> world.restLong(0));
        Check.letter("why of another", world.why(1), '-');
        Check.bad(world, "camp of 0", () -> world.camp(0, 0));
        Check.bad(world, "take 0", () -> world.take(0, 0));
        Check.bad(world, "feed 4", () -> world.feed(0, 4));
        Check.bad(world, "best plan for 0", () -> world.bestPlan(0, 0));
        world.give(0, 1, 1);
        world.order(0, 'r', 0);
        world.clear(0);
        world.bestPlan(0, 1);
        world.help(0);
        world.drop(0, 0);
        world.estimate(0);
        world.owed(0);
        world.isTrue();
        Check.letter("why stays", world.why(0), 'l');
        world.scratch(0);
        world.scratch(1);
        world.endYear();
        Check.letter("why stays over the year", world.why(0), 'l');
        world.isAdmitted(0);
        Check.letter("why when done", world.why(0), '-');
        Check.barred(world, 0, 'n', "restLong", () -> world.restLong(0));
        for (int i = 0; i < 5; i++) {
            world.hitch(0, i);
        }
        world.begin(0, 0);
        Check.letter("why stays as it begins", world.why(0), 'n');
        world.melt(0);
        Check.letter("why of melting", world.why(0), '-');
    }
}
