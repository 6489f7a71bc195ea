/** Promises 12 to 25: what a team does on its way. */
public final class WayTest {
    public static void main(String[] args) {
        nobodyThere();
        notOnWay();
        run();
        runBars();
        barsInOrder();
        wearAndTear();
        sledBreaks();
        tiredMusher();
        stormAndLeaders();
        weakDogs();
        trustIsLost();
        death();
        finish();
        camp();
        campHours();
        restLong();
        restMust();
        take();
        feed();
        melt();
        boots();
        bootsUsedUp();
        give();
        help();
        mend();
        exchange();
        drop();
        scratch();
        Check.end("WayTest");
    }

    private static void nobodyThere() {
        Gangline world = Check.begun(2, 1);
        for (int team : new int[] {-1, 1, Integer.MIN_VALUE, Integer.MAX_VALUE}) {
            Check.out(world, "run", () -> world.run(team));
            Check.out(world, "camp", () -> world.camp(team, 0));
            Check.out(world, "restLong", () -> world.restLong(team));
            Check.out(world, "restMust", () -> world.restMust(team));
            Check.out(world, "take", () -> world.take(team, 0));
            Check.out(world, "feed", () -> world.feed(team, 0));
            Check.out(world, "melt", () -> world.melt(team));
            Check.out(world, "boots", () -> world.boots(team, true));
            Check.out(world, "give", () -> world.give(team, 0, 0));
            Check.out(world, "give to nobody", () -> world.give(0, team, 0));
            Check.out(world, "help", () -> world.help(team));
            Check.out(world, "mend", () -> world.mend(team));
            Check.out(world, "exchange", () -> world.exchange(team));
            Check.out(world, "drop", () -> world.drop(team, 0));
            Check.out(world, "drop of no dog", () -> world.drop(0, team < 0 ? team : 5));
            Check.out(world, "scratch", () -> world.scratch(team));
        }
    }

    /** A team that has not begun, one that is out, and one that finished: nothing can be done. */
    private static void notOnWay() {
        Gangline world = Check.ready(2, 4);
        for (int i = 1; i < 4; i++) {
            world.begin(i, 200);
        }
        world.scratch(1);
        world.run(2);
        world.restLong(2);
        world.run(2);
        for (int i = 0; i < 3; i++) {
            int team = i;
            Check.barred(world, team, 'n', "run", () -> world.run(team));
            world.isAdmitted(team);
            Check.barred(world, team, 'n', "camp", () -> world.camp(team, 1));
            world.isAdmitted(team);
            Check.barred(world, team, 'n', "restLong", () -> world.restLong(team));
            world.isAdmitted(team);
            Check.barred(world, team, 'n', "restMust", () -> world.restMust(team));
            world.isAdmitted(team);
            Check.barred(world, team, 'n', "take", () -> world.take(team, 300));
            world.isAdmitted(team);
            Check.barred(world, team, 'n', "feed", () -> world.feed(team, 3));
            world.isAdmitted(team);
            Check.barred(world, team, 'n', "melt", () -> world.melt(team));
            world.isAdmitted(team);
            Check.barred(world, team, 'n', "boots", () -> world.boots(team, true));
            world.isAdmitted(team);
            Check.barred(world, team, 'n', "mend", () -> world.mend(team));
            world.isAdmitted(team);
            Check.barred(world, team, 'n', "exchange", () -> world.exchange(team));
            world.isAdmitted(team);
            Check.barred(world, team, '-', "give", () -> world.give(team, 3, 1));
            Check.barred(world, 3, '-', "give to it", () -> world.give(3, team, 1));
            Check.barred(world, team, '-', "help", () -> world.help(team));
            Check.barred(world, team, '-', "drop", () -> world.drop(team, 5 * team));
            Check.isNot("scratch", () -> world.scratch(team));
        }
        Check.text("races", "" + world.raceOf(0) + world.raceOf(1) + world.raceOf(2) + world.raceOf(3), "-xfr");
    }

    private static void run() {
        Gangline world = Check.begun(2, 1);
        Check.same("run", world.run(0), 144);
        Check.letter("why", world.why(0), '-');
        Check.same("minute", world.teamOf(0, 'm'), 144);
        Check.same("checkpoint", world.teamOf(0, 'c'), 1);
        Check.same("sleep", world.teamOf(0, 's'), 96);
        Check.same("kilos", world.teamOf(0, 'k'), 60);
        Check.same("food", world.dogOf(0, 'e'), 75);
        Check.same("water", world.dogOf(0, 'w'), 80);
        Check.same("feet", world.dogOf(0, 'f'), 100);
        Check.same("trust", world.dogOf(0, 't'), 5);
        // Pull 8 * 155 / 40 = 31, 5 of them 155.
        Check.same("pull", world.dogOf(0, 'p'), 31);
        Check.same("second run", world.run(0), 40 * 6 * 120 / 155);
        Check.letter("out at the finish", world.raceOf(0), 'x');
    }

    private static void runBars() {
        Gangline world = Check.ready(3, 1);
        world.must(1, true);
        Check.barred(world, 0, 'n', "run ahead of the beginning", () -> world.run(0));
        int more = world.dog(0, 1, 0);
        world.hitch(0, more);
        world.begin(0, 60);
        world.storm(0, 0, 0, 9);
        Check.barred(world, 0, 'c', "run in a storm of 9", () -> world.run(0));
        world.camp(0, 1);
        Check.same("run behind the storm", world.run(0), 40 * 6 * 120 / 205);
        Check.barred(world, 0, 'm', "run without the rest", () -> world.run(0));
        world.restMust(0);
        Check.same("run with 6 dogs", world.run(0) > 0 ? 1 : 0, 1);
        Gangline few = Check.begun(3, 1);
        few.drop(0, 4);
        Check.barred(few, 0, 'd', "run with 4 dogs", () -> few.run(0));
        Gangline tired = new Gangline();
        tired.leg(120, 0, 0);
        tired.leg(120, 0, 0);
        tired.leg(120, 0, 0);
        Check.addTeam(tired, 5, 8, 3);
        tired.begin(0, 0);
        tired.run(0);
        tired.run(0);
        Check.is("must stop without water", () -> tired.mustStop(3));
        Check.barred(tired, 0, 's', "run with a dog that must stop", () -> tired.run(0));
        tired.melt(0);
        Check.same("run with water", tired.run(0) > 0 ? 1 : 0, 1);
        Gangline eight = Check.begun(3, 1);
        eight.storm(0, 0, 0, 8);
        Check.same("run in a storm of 8", eight.run(0), 40 * 14 * 120 / 200 + 75);
    }

    /** All bars at once: each is told when the ones ahead of it are gone. */
    private static void barsInOrder() {
        Gangline world = new Gangline();
        world.leg(120, 0, 0);
        world.leg(120, 0, 0);
        world.leg(120, 0, 0);
        world.must(2, true);
        Check.addTeam(world, 5, 8, 3);
        world.begin(0, 0);
        world.run(0);
        world.run(0);
        world.storm(2, 0, 9999, 9);
        Check.barred(world, 0, 's', "run", () -> world.run(0));
        world.melt(0);
        Check.barred(world, 0, 'm', "run", () -> world.run(0));
        world.restMust(0);
        Check.barred(world, 0, 'c', "run", () -> world.run(0));
        world.drop(0, 0);
        Check.barred(world, 0, 'd', "run", () -> world.run(0));
        world.scratch(0);
        Check.barred(world, 0, 'n', "run", () -> world.run(0));
        Gangline two = Check.begun(1, 1);
        two.drop(0, 0);
        two.storm(0, 0, 9999, 9);
        Check.barred(two, 0, 'd', "run", () -> two.run(0));
    }

    private static void wearAndTear() {
        Gangline world = new Gangline();
        world.leg(57, 7, -9);
        world.leg(57, 7, 9);
        world.cold(0, -4);
        world.cold(1, -31);
        Check.addTeam(world, 5, 7, 3);
        world.begin(0, 33);
        // Pull 7 * 200 / 40 = 35, 5 of them 175; a climb below 0 does not count.
        Check.same("down", world.run(0), 57 * 12 * 93 / 175);
        Check.same("food", world.dogOf(0, 'e'), 100 - 57 * 93 / 200 - 1);
        Check.same("water", world.dogOf(0, 'w'), 100 - 28 - 14);
        Check.same("feet", world.dogOf(0, 'f'), 100 - 7);
        Check.same("break", world.teamOf(0, 'b'), 1);
        // Food 73, water 58, feet 93: 7 * 131 / 40 = 22, * 93 / 100 = 20, 5 of them 100.
        Check.same("pull", world.dogOf(0, 'p'), 20);
        Check.same("up", world.run(0), 57 * 21 * 93 / 100 + 10);
        Check.same("food then", world.dogOf(0, 'e'), 73 - 27);
        Check.same("water then", world.dogOf(0, 'w'), 58 - 28);
        Check.same("feet then", world.dogOf(0, 'f'), 93 - 7 - 5);
        Gangline cut = world(8, 3, new int[] {10, 0, 0}, new int[] {120, 9, 0}, new int[] {120, 9, 0},
            new int[] {120, 9, 0}, new int[] {120, 9, 0}, new int[] {5, 0, 0});
        for (int i = 0; i < 6; i++) {
            cut.cold(i, -31);
        }
        cut.begin(0, 139);
        cut.run(0);
        Check.same("food, cut", cut.dogOf(0, 'e'), 100 - 9 - 1);
        Check.same("feet in the cold", cut.dogOf(0, 'f'), 95);
        Check.same("pull with feet of 95", cut.dogOf(0, 'p'), 8 * 185 / 40 * 95 / 100);
        Gangline sore = world(8, 3, new int[] {10, 5, 0}, new int[] {5, 0, 0});
        sore.begin(0, 60);
        sore.run(0);
        sore.feed(0, 1);
        Check.same("pull with feet of 99", sore.dogOf(0, 'p'), 39);
        for (int feet : new int[] {69, 43, 17, 0}) {
            cut.melt(0);
            cut.feed(0, 3);
            cut.run(0);
            Check.same("feet then", cut.dogOf(0, 'f'), feet);
        }
    }

    private static void sledBreaks() {
        int[][] due = {{-5, 0, 0}, {-6, 0, 1}, {0, 4, 0}, {0, 5, 1}, {-6, 5, 2}, {-9, 8, 2}};
        for (int[] row : due) {
            Gangline world = new Gangline();
            world.leg(40, 1, row[0]);
            world.leg(40, 1, 0);
            Check.addTeam(world, 5, 8, 9);
            if (row[1] > 0) {
                world.storm(0, 0, 0, row[1]);
            }
            world.begin(0, 60);
            world.run(0);
            Check.same("breaks by " + row[0] + ", " + row[1], world.teamOf(0, 'b'), row[2]);
            Check.same("estimate by " + row[0] + ", " + row[1], world.estimate(0), 40 * 6 * 120 / 155 + 10 * row[2]);
        }
    }

    /** A world with these legs, each {length, surface, climb}, and a team of 5 dogs. */
    private static Gangline world(int strength, int lead, int[]... legs) {
        Gangline world = new Gangline();
        for (int[] leg : legs) {
            world.leg(leg[0], leg[1], leg[2]);
        }
        Check.addTeam(world, 5, strength, lead);
        return world;
    }

    private static void tiredMusher() {
        // Pull 1 * 200 / 40 = 5, 5 of them 25: 50 * 20 * 60 / 25 = 2400 minutes take 80 of sleep.
        Gangline awake = world(1, 0, new int[] {50, 9, 6}, new int[] {50, 0, 0}, new int[] {50, 0, 0});
        awake.begin(0, 0);
        Check.same("a slow leg", awake.run(0), 2400);
        Check.same("sleep", awake.teamOf(0, 's'), 20);
        // Food 84, water 75, feet 91: 1 * 159 / 40 = 3, * 91 / 100 = 2, 5 of them 10.
        Check.same("estimate with sleep", awake.estimate(0), 50 * 5 * 60 / 10);
        Gangline tired = world(1, 0, new int[] {50, 9, 6}, new int[] {50, 0, 0}, new int[] {120, 9, 9});
        tired.begin(0, 1);
        Check.same("a slower leg", tired.run(0), 2440);
        Check.same("less sleep", tired.teamOf(0, 's'), 19);
        Check.same("estimate without sleep", tired.estimate(0), 50 * 5 * 61 / 10 + 50);
        tired.run(0);
        Check.same("no sleep is left", tired.teamOf(0, 's'), 0);
    }

    private static void stormAndLeaders() {
        Gangline world = Check.trail(2);
        world.team();
        for (int lead : new int[] {2, 4, 9, 8, 9}) {
            world.hitch(0, world.dog(0, 8, lead));
        }
        world.begin(0, 60);
        world.storm(0, 0, 9, 4);
        Check.same("a storm as strong as the best lead", world.estimate(0), 40 * 10 * 120 / 200);
        world.storm(0, 0, 9, 6);
        Check.same("a stronger one", world.estimate(0), 40 * 12 * 120 / 200 + 30);
        Check.same("dropped", world.drop(0, 0), 4);
        Check.same("the next one leads", world.estimate(0), 40 * 12 * 120 / 160);
        world.drop(0, 4);
        world.drop(0, 3);
        world.drop(0, 2);
        Check.same("one leads", world.estimate(0), 40 * 12 * 120 / 40 + 30);
        world.drop(0, 1);
        Check.same("no dog is left", world.estimate(0), 40 * 12 * 120 + 90);
    }

    private static void weakDogs() {
        Gangline world = world(1, 0, new int[] {120, 0, 0}, new int[] {30, 0, 0}, new int[] {10, 0, 0});
        world.begin(0, 60);
        Check.same("first leg", world.run(0), 120 * 5 * 120 / 25);
        Check.same("second leg, tired", world.run(0), 30 * 5 * 120 / 5 + 30);
        Check.same("food", world.dogOf(0, 'e'), 8);
        Check.same("water", world.dogOf(0, 'w'), 25);
        Check.same("pull", world.dogOf(0, 'p'), 0);
        Check.isNot("must stop", () -> world.mustStop(0));
        Check.same("third leg, no pull", world.run(0), 10 * 5 * 120 + 10);
    }

    private static void trustIsLost() {
        Check.same("trust with food 20", trustBehind(72, 120, 0), 5);
        Check.same("trust with food 19", trustBehind(74, 120, 0), 4);
        Check.same("trust with water 20", trustBehind(0, 80, 80), 5);
        Check.same("trust with water 19", trustBehind(0, 80, 82), 4);
        Gangline world = world(8, 0, new int[] {120, 0, 0}, new int[] {5, 0, 0}, new int[] {5, 0, 0},
            new int[] {5, 0, 0}, new int[] {5, 0, 0}, new int[] {5, 0, 0}, new int[] {5, 0, 0});
        world.begin(0, 74);
        for (int trust : new int[] {4, 3, 2, 1, 0, 0}) {
            world.run(0);
            Check.same("trust", world.dogOf(2, 't'), trust);
        }
        Check.same("food is not below 0", world.dogOf(2, 'e'), 0);
        Check.letter("alive with water", world.stateOf(2), 'r');
        Check.barred(world, 0, 's', "run without food", () -> world.run(0));
    }

    private static int trustBehind(int kilos, int first, int second) {
        Gangline world = world(8, 0, new int[] {first, 0, 0}, new int[] {Math.max(5, second), 0, 0},
            new int[] {5, 0, 0});
        world.begin(0, kilos);
        world.run(0);
        if (second > 0) {
            world.run(0);
        }
        return world.dogOf(0, 't');
    }

    private static void death() {
        Gangline world = world(8, 0, new int[] {120, 0, 0}, new int[] {120, 0, 0}, new int[] {5, 0, 0});
        world.begin(0, 40);
        world.run(0);
        Check.same("food", world.dogOf(0, 'e'), 39);
        Check.same("water", world.dogOf(0, 'w'), 40);
        // Pull 8 * 79 / 40 = 15, 5 of them 75.
        Check.same("the last leg", world.run(0), 120 * 5 * 100 / 75);
        Check.letter("why", world.why(0), '-');
        Check.letter("race", world.raceOf(0), 'x');
        Check.same("checkpoint", world.teamOf(0, 'c'), 2);
        Check.letter("dog", world.stateOf(4), 'x');
        Check.cannot(world, "hitch of a dead dog", () -> world.hitch(0, 4));
        Check.cannot(world, "lease of a dead dog", () -> world.lease(4, 0));
        world.endYear();
        Check.letter("dog in the next year", world.stateOf(4), 'x');
        Check.same("the dead get no older", world.dogOf(4, 'a'), 2);
        Check.cannot(world, "hitch of a dead dog in the next year", () -> world.hitch(0, 4));
        Gangline last = world(8, 0, new int[] {120, 0, 0}, new int[] {120, 0, 0});
        last.begin(0, 40);
        last.run(0);
        last.restLong(0);
        last.run(0);
        Check.letter("dead at the finish", last.stateOf(0), 'x');
        Check.letter("out at the finish", last.raceOf(0), 'x');
        Check.same("no race is finished", last.teamOf(0, 'f'), 0);
    }

    private static void finish() {
        Gangline world = Check.begun(2, 2);
        world.run(0);
        world.run(1);
        world.restLong(1);
        world.run(0);
        world.run(1);
        Check.letter("without the long rest", world.raceOf(0), 'x');
        Check.letter("with it", world.raceOf(1), 'f');
        Check.same("checkpoint", world.teamOf(0, 'c'), 2);
        Check.same("checkpoint of the finished", world.teamOf(1, 'c'), 2);
        Check.letter("dog", world.stateOf(0), 'd');
        Check.letter("dog of the finished", world.stateOf(5), 'd');
        Check.same("races finished", world.teamOf(1, 'f'), 1);
        Check.same("races not finished", world.teamOf(0, 'f'), 0);
    }

    private static void camp() {
        Gangline world = Check.begun(2, 1);
        world.run(0);
        Check.barred(world, 0, 'n', "restMust", () -> world.restMust(0));
        Check.bad(world, "camp of 0", () -> world.camp(0, 0));
        Check.bad(world, "camp of 31", () -> world.camp(0, 31));
        Check.letter("why stays", world.why(0), 'n');
        Check.same("camp", world.camp(0, 1), 204);
        Check.letter("why", world.why(0), '-');
        Check.same("camp of 30", world.camp(0, 30), 2004);
        Gangline first = Check.begun(2, 1);
        Check.same("camp at the first checkpoint", first.camp(0, 2), 120);
        Gangline none = Check.ready(2, 1);
        Check.bad(none, "camp of 0, not begun", () -> none.camp(0, 0));
    }

    private static void campHours() {
        Gangline world = world(9, 0, new int[] {100, 9, 0}, new int[] {100, 9, 0}, new int[] {100, 9, 0});
        world.cold(0, -31);
        world.cold(1, -31);
        world.begin(0, 0);
        world.run(0);
        world.run(0);
        Check.same("feet", world.dogOf(0, 'f'), 54);
        Check.same("trust", world.dogOf(0, 't'), 4);
        int sleep = world.teamOf(0, 's');
        world.camp(0, 1);
        Check.same("sleep", world.teamOf(0, 's'), sleep + 10);
        world.camp(0, 3);
        Check.same("feet of 1 and 3 hours", world.dogOf(0, 'f'), 62);
        Check.same("trust of 1 and 3 hours", world.dogOf(0, 't'), 4);
        world.camp(0, 4);
        Check.same("feet of 4 hours", world.dogOf(0, 'f'), 70);
        Check.same("trust of 4 hours", world.dogOf(0, 't'), 5);
        // 8 hours at 2, with a trust of 7 then 3 hours at 4.
        world.camp(0, 11);
        Check.same("feet of 11 hours", world.dogOf(0, 'f'), 98);
        Check.same("trust of 11 hours", world.dogOf(0, 't'), 7);
        Check.same("sleep of many hours", world.teamOf(0, 's'), 100);
        world.camp(0, 30);
        Check.same("feet of 30 hours", world.dogOf(0, 'f'), 100);
        Check.same("trust of 30 hours", world.dogOf(0, 't'), 9);
        Gangline soon = world(9, 0, new int[] {100, 9, 0}, new int[] {100, 9, 0}, new int[] {100, 9, 0});
        soon.cold(0, -31);
        soon.begin(0, 0);
        soon.camp(0, 8);
        soon.run(0);
        Check.same("feet with a trust of 7", soon.dogOf(0, 'f'), 77);
        soon.camp(0, 1);
        Check.same("feet are 4 more", soon.dogOf(0, 'f'), 81);
    }

    private static void restLong() {
        Gangline world = Check.begun(3, 3);
        Check.barred(world, 0, 'l', "restLong at the first checkpoint", () -> world.restLong(0));
        for (int i = 0; i < 3; i++) {
            world.run(i);
        }
        world.scratch(2);
        Check.same("long rest of the first", world.restLong(0), 1444);
        Check.same("minute", world.teamOf(0, 'm'), 1588);
        Check.letter("why", world.why(0), '-');
        Check.barred(world, 0, 'l', "restLong again", () -> world.restLong(0));
        Check.same("long rest of the second", world.restLong(1), 1442);
        world.run(0);
        Check.barred(world, 0, 'l', "restLong at the next checkpoint", () -> world.restLong(0));
        Gangline worn = world(8, 0, new int[] {120, 9, 0}, new int[] {120, 9, 0}, new int[] {5, 0, 0});
        worn.cold(0, -31);
        worn.cold(1, -31);
        worn.begin(0, 0);
        worn.run(0);
        worn.run(0);
        // 21 and 5 twice from 100; without water the trust is 4.
        Check.same("feet", worn.dogOf(0, 'f'), 48);
        worn.restLong(0);
        Check.same("feet then", worn.dogOf(0, 'f'), 100);
        Check.same("trust then", worn.dogOf(0, 't'), 9);
        Check.same("sleep then", worn.teamOf(0, 's'), 100);
    }

    private static void restMust() {
        Gangline world = world(8, 0, new int[] {120, 9, 0}, new int[] {5, 0, 0}, new int[] {5, 0, 0});
        world.must(1, true);
        world.cold(0, -31);
        world.begin(0, 0);
        Check.barred(world, 0, 'n', "restMust where none is", () -> world.restMust(0));
        // Pull 40, 5 of them 200.
        Check.same("run", world.run(0), 120 * 14 * 60 / 200);
        Check.same("sleep", world.teamOf(0, 's'), 100 - 504 / 30);
        Check.same("restMust", world.restMust(0), 504 + 480);
        Check.letter("why", world.why(0), '-');
        Check.same("feet", world.dogOf(0, 'f'), 74 + 16);
        Check.same("trust", world.dogOf(0, 't'), 7);
        Check.same("sleep then", world.teamOf(0, 's'), 100);
        Check.barred(world, 0, 'n', "restMust again", () -> world.restMust(0));
        Check.same("the long rest is another one", world.restLong(0), 1440);
        world.run(0);
        Check.barred(world, 0, 'n', "restMust at the next one", () -> world.restMust(0));
        Gangline two = Check.ready(3, 1);
        two.must(1, true);
        two.must(2, true);
        two.begin(0, 100);
        two.run(0);
        two.restMust(0);
        two.run(0);
        Check.barred(two, 0, 'm', "run without the second rest", () -> two.run(0));
        int minute = two.teamOf(0, 'm');
        Check.same("second restMust", two.restMust(0), minute + 480);
    }

    private static void take() {
        Gangline world = Check.ready(3, 2);
        world.send(0, 1, 250);
        world.send(0, 2, 50);
        world.begin(0, 200);
        world.begin(1, 200);
        Check.barred(world, 0, 'k', "take where nothing is", IllegalStateException.class, () -> world.take(0, 1));
        world.run(0);
        world.run(1);
        Check.bad(world, "take 0", () -> world.take(0, 0));
        Check.bad(world, "take 301", () -> world.take(0, 301));
        Check.letter("why stays", world.why(0), '-');
        Check.barred(world, 0, 'k', "take 251", IllegalStateException.class, () -> world.take(0, 251));
        int minute = world.teamOf(0, 'm');
        Check.same("take 249", world.take(0, 249), 449);
        Check.letter("why", world.why(0), '-');
        Check.barred(world, 0, 'k', "take 2", IllegalStateException.class, () -> world.take(0, 2));
        Check.same("take the last one", world.take(0, 1), 450);
        Check.same("take takes no time", world.teamOf(0, 'm'), minute);
        // Food 100 - 53 = 47, water 80: 8 * 127 / 40 = 25, 5 of them 125.
        Check.same("load", world.estimate(0), 40 * 6 * 510 / 125);
        Check.barred(world, 1, 'k', "take another's", IllegalStateException.class, () -> world.take(1, 1));
    }

    private static void feed() {
        Gangline world = Check.ready(3, 1);
        world.hitch(0, world.dog(0, 8, 3));
        world.begin(0, 60);
        world.run(0);
        Check.same("food", world.dogOf(0, 'e'), 75);
        Check.same("water", world.dogOf(0, 'w'), 80);
        Check.bad(world, "feed 0", () -> world.feed(0, 0));
        Check.bad(world, "feed 4", () -> world.feed(0, 4));
        int minute = world.teamOf(0, 'm');
        Check.same("feed", world.feed(0, 1), 54);
        Check.letter("why", world.why(0), '-');
        Check.same("minute", world.teamOf(0, 'm'), minute + 30);
        Check.same("food then", world.dogOf(5, 'e'), 100);
        Check.same("water then", world.dogOf(5, 'w'), 90);
        Check.same("feed 3", world.feed(0, 3), 36);
        Check.same("water is full", world.dogOf(5, 'w'), 100);
        Check.same("feed 3 again", world.feed(0, 3), 18);
        Check.same("feed 2", world.feed(0, 2), 6);
        Check.same("feed the last ones", world.feed(0, 1), 0);
        Check.barred(world, 0, 'k', "feed without kilos", IllegalStateException.class, () -> world.feed(0, 1));
        Gangline hungry = world(8, 0, new int[] {120, 0, 0}, new int[] {5, 0, 0});
        hungry.begin(0, 70);
        hungry.run(0);
        Check.same("food of the hungry", hungry.dogOf(0, 'e'), 21);
        hungry.drop(0, 3);
        Check.same("feed 4 dogs", hungry.feed(0, 2), 62);
        Check.same("food of the fed", hungry.dogOf(0, 'e'), 81);
        Check.same("food of the dropped", hungry.dogOf(3, 'e'), 21);
        Check.same("water of the fed", hungry.dogOf(0, 'w'), 60);
    }

    private static void melt() {
        Gangline world = world(8, 0, new int[] {120, 0, 0}, new int[] {5, 0, 0});
        world.begin(0, 0);
        world.run(0);
        int minute = world.teamOf(0, 'm');
        int food = world.dogOf(0, 'e');
        Check.same("melt", world.melt(0), minute + 45);
        Check.letter("why", world.why(0), '-');
        Check.same("water", world.dogOf(4, 'w'), 80);
        Check.same("food stays", world.dogOf(4, 'e'), food);
        Check.same("melt again", world.melt(0), minute + 90);
        Check.same("water is full", world.dogOf(4, 'w'), 100);
    }

    private static void boots() {
        Gangline world = world(8, 0, new int[] {50, 3, 0}, new int[] {50, 3, 0}, new int[] {50, 3, 0},
            new int[] {5, 0, 0});
        world.cold(1, -31);
        world.begin(0, 0);
        Check.is("boots on", () -> world.boots(0, true));
        Check.letter("why", world.why(0), '-');
        world.run(0);
        Check.same("feet with boots", world.dogOf(0, 'f'), 99);
        Check.same("boots left", world.teamOf(0, 'o'), 5);
        world.run(0);
        Check.same("feet with boots in the cold", world.dogOf(0, 'f'), 93);
        Check.same("boots stay on", world.teamOf(0, 'o'), 4);
        Check.isNot("boots off", () -> world.boots(0, false));
        world.run(0);
        Check.same("feet without boots", world.dogOf(0, 'f'), 90);
        Check.same("boots are not used", world.teamOf(0, 'o'), 4);
        Check.isNot("boots off again", () -> world.boots(0, false));
    }

    private static void bootsUsedUp() {
        Gangline world = new Gangline();
        for (int i = 0; i < 9; i++) {
            world.leg(10, 9, 0);
        }
        Check.addTeam(world, 5, 8, 0);
        world.begin(0, 0);
        world.boots(0, true);
        Gangline rough = world(8, 0, new int[] {59, 6, 0}, new int[] {5, 0, 0});
        rough.begin(0, 0);
        rough.boots(0, true);
        rough.run(0);
        Check.same("half of 7, cut", rough.dogOf(0, 'f'), 97);
        for (int left = 5; left >= 0; left--) {
            world.run(0);
            Check.same("boots left", world.teamOf(0, 'o'), left);
            Check.same("feet", world.dogOf(0, 'f'), 100);
        }
        world.run(0);
        Check.same("feet without boots", world.dogOf(0, 'f'), 99);
        Check.same("no boots are left", world.teamOf(0, 'o'), 0);
        Check.isNot("boots that stay off", () -> world.boots(0, true));
        Check.letter("why", world.why(0), '-');
        world.run(0);
        Check.same("feet then", world.dogOf(0, 'f'), 98);
        Check.same("none are left then", world.teamOf(0, 'o'), 0);
        world.scratch(0);
        world.endYear();
        Check.same("boots of the next year", world.teamOf(0, 'o'), 6);
        Gangline last = new Gangline();
        for (int i = 0; i < 7; i++) {
            last.leg(10, 9, 0);
        }
        Check.addTeam(last, 5, 8, 0);
        last.begin(0, 0);
        last.boots(0, true);
        for (int i = 0; i < 5; i++) {
            last.run(0);
        }
        Check.isNot("the last boots off", () -> last.boots(0, false));
        Check.is("the last boots on", () -> last.boots(0, true));
        last.scratch(0);
        last.endYear();
        for (int i = 0; i < 5; i++) {
            last.hitch(0, i);
        }
        last.begin(0, 0);
        last.run(0);
        Check.same("no boots are on in the next year", last.teamOf(0, 'o'), 6);
    }

    private static void give() {
        Gangline world = Check.begun(3, 3);
        Check.bad(world, "give 0", () -> world.give(0, 1, 0));
        Check.bad(world, "give 201 to itself", () -> world.give(0, 0, 201));
        Check.cannot(world, "give to itself", () -> world.give(0, 0, 1));
        Check.full(world, "give 61", () -> world.give(0, 1, 61));
        Check.same("give 60", world.give(0, 1, 60), 120);
        Check.same("carried then", world.teamOf(0, 'k'), 0);
        Check.full(world, "give without any", () -> world.give(0, 1, 1));
        Check.same("give on", world.give(1, 2, 120), 180);
        Check.same("and on", world.give(2, 0, 180), 180);
        world.run(0);
        Check.cannot(world, "give from another checkpoint", () -> world.give(0, 1, 200));
        Check.cannot(world, "give to another checkpoint", () -> world.give(1, 0, 1));
        Check.letter("why stays", world.why(1), '-');
    }

    private static void help() {
        Gangline world = Check.begun(2, 2);
        int minute = world.teamOf(0, 'm');
        Check.same("help", world.help(0), 120);
        Check.same("owed", world.owed(0), 1442 + 120);
        Check.same("minute stays", world.teamOf(0, 'm'), minute);
        Check.letter("race", world.raceOf(0), 'r');
        Check.same("help again", world.help(0), 240);
        Check.letter("out", world.raceOf(0), 'x');
        Check.letter("dog", world.stateOf(0), 'd');
        Check.same("owed when out", world.owed(0), 240);
        Check.cannot(world, "help when out", () -> world.help(0));
        Check.same("help of another", world.help(1), 120);
        world.scratch(1);
        world.endYear();
        Check.same("penalties go", world.owed(0), 0);
    }

    private static void mend() {
        Gangline world = world(8, 9, new int[] {5, 0, -6}, new int[] {5, 0, -6}, new int[] {5, 0, 0});
        world.storm(0, 0, 99, 5);
        world.storm(1, 0, 99, 5);
        world.begin(0, 0);
        world.run(0);
        world.run(0);
        Check.same("breaks", world.teamOf(0, 'b'), 4);
        int minute = world.teamOf(0, 'm');
        Check.same("mend", world.mend(0), 1);
        Check.letter("why", world.why(0), '-');
        Check.same("minute", world.teamOf(0, 'm'), minute + 60);
        Check.same("parts", world.teamOf(0, 'p'), 2);
        Check.same("mend all", world.mend(0), 0);
        Check.same("mend a whole sled", world.mend(0), 0);
        Check.same("no parts", world.teamOf(0, 'p'), 0);
        Check.barred(world, 0, 'p', "mend without parts", IllegalStateException.class, () -> world.mend(0));
        Check.same("minute then", world.teamOf(0, 'm'), minute + 180);
    }

    private static void exchange() {
        Gangline world = world(8, 9, new int[] {5, 0, -6}, new int[] {5, 0, -6}, new int[] {5, 0, 0});
        world.storm(0, 0, 99, 8);
        world.begin(0, 0);
        world.run(0);
        int minute = world.teamOf(0, 'm');
        Check.same("exchange", world.exchange(0), 1);
        Check.letter("why", world.why(0), '-');
        Check.same("breaks", world.teamOf(0, 'b'), 0);
        Check.same("parts stay", world.teamOf(0, 'p'), 3);
        Check.same("minute stays", world.teamOf(0, 'm'), minute);
        Check.same("exchange again", world.exchange(0), 0);
        Check.barred(world, 0, 'p', "a third exchange", IllegalStateException.class, () -> world.exchange(0));
        world.scratch(0);
        world.endYear();
        for (int i = 0; i < 5; i++) {
            world.hitch(0, i);
        }
        world.begin(0, 0);
        Check.same("exchange in the next year", world.exchange(0), 1);
        world.run(0);
        world.scratch(0);
        world.endYear();
        Check.same("a whole sled in the next year", world.teamOf(0, 'b'), 0);
    }

    private static void drop() {
        Gangline world = Check.begun(2, 2);
        int kept = world.dog(0, 5, 5);
        Check.cannot(world, "drop of another's dog", () -> world.drop(0, 5));
        Check.cannot(world, "drop of a dog in the kennel", () -> world.drop(0, kept));
        Check.same("drop", world.drop(0, 2), 4);
        Check.letter("state", world.stateOf(2), 'd');
        Check.same("dogs with it", world.teamOf(0, 'd'), 4);
        Check.same("team of the dropped", world.dogOf(2, 'k'), 0);
        Check.cannot(world, "drop again", () -> world.drop(0, 2));
        Check.same("pulls of those left", world.estimate(0), 40 * 6 * 120 / 160);
        Check.same("drop the last one of the order", world.drop(0, 4), 3);
        for (int left = 2; left >= 0; left--) {
            Check.same("drop", world.drop(0, new int[] {3, 1, 0}[left]), left);
        }
        Check.letter("still on its way", world.raceOf(0), 'r');
        world.scratch(0);
        world.scratch(1);
        world.endYear();
        Check.letter("in the kennel again", world.stateOf(2), 'k');
        Gangline many = Check.trail(2);
        Check.addTeam(many, 14, 8, 3);
        many.begin(0, 60);
        for (int left = 13; left >= 0; left--) {
            Check.same("drop one of many", many.drop(0, (left * 5 + 3) % 14), left);
            Check.number("pulls of those left", many.estimate(0), 40 * 6 * 120 / Math.max(1, 40 * left));
        }
    }

    private static void scratch() {
        Gangline world = Check.ready(2, 2);
        Check.isNot("scratch ahead of the beginning", () -> world.scratch(0));
        Check.letter("race", world.raceOf(0), '-');
        Check.letter("dog", world.stateOf(0), 'h');
        Check.same("begin all the same", world.begin(0, 0), 0);
        world.drop(0, 1);
        Check.is("scratch", () -> world.scratch(0));
        Check.letter("out", world.raceOf(0), 'x');
        Check.letter("dog then", world.stateOf(0), 'd');
        Check.letter("another's dog", world.stateOf(5), 'h');
        Check.isNot("scratch again", () -> world.scratch(0));
    }
}
