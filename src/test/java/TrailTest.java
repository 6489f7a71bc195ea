/** Promises 1 to 11: trail, dogs, teams. */
public final class TrailTest {
    public static void main(String[] args) {
        newObject();
        leg();
        legOnlyWithoutTeams();
        cold();
        coldCounts();
        storm();
        stormCounts();
        must();
        team();
        dog();
        lease();
        leaseOfDroppedDog();
        hitch();
        hitchOfDroppedDog();
        send();
        begin();
        beginLater();
        Check.end("TrailTest");
    }

    private static void newObject() {
        Gangline world = new Gangline();
        Check.same("purse of a new world", world.purse(0), 0);
        Check.out(world, "cold without legs", () -> world.cold(0, 0));
        Check.out(world, "why without teams", () -> world.why(0));
        Check.out(world, "stateOf without dogs", () -> world.stateOf(0));
        Check.out(world, "standing without teams", () -> world.standing(0));
        Check.is("isTrue of a new world", () -> world.isTrue());
        Check.same("first year", world.endYear(), 1);
    }

    private static void leg() {
        Gangline world = new Gangline();
        Check.bad(world, "leg of 4", () -> world.leg(4, 0, 0));
        Check.bad(world, "leg of 121", () -> world.leg(121, 0, 0));
        Check.bad(world, "surface -1", () -> world.leg(5, -1, 0));
        Check.bad(world, "surface 10", () -> world.leg(5, 10, 0));
        Check.bad(world, "climb -10", () -> world.leg(5, 0, -10));
        Check.bad(world, "climb 10", () -> world.leg(5, 0, 10));
        Check.same("leg 0", world.leg(5, 0, -9), 0);
        Check.same("leg 1", world.leg(120, 9, 9), 1);
        for (int i = 2; i < 10; i++) {
            Check.same("leg " + i, world.leg(50, 5, 0), i);
        }
        Check.full(world, "an 11th leg", () -> world.leg(50, 5, 0));
        Check.bad(world, "an 11th leg out of range", () -> world.leg(0, 5, 0));
    }

    private static void legOnlyWithoutTeams() {
        Gangline world = Check.begun(10, 1);
        Check.cannot(world, "an 11th leg with a team on its way", () -> world.leg(50, 5, 0));
        Check.bad(world, "a leg out of range with a team on its way", () -> world.leg(50, 5, 10));
        Check.cannot(world, "must with a team on its way", () -> world.must(1, true));
        Gangline other = Check.begun(2, 1);
        Check.cannot(other, "a leg with a team on its way", () -> other.leg(50, 5, 0));
        other.scratch(0);
        Check.same("a leg with a team that is out", other.leg(50, 5, 0), 2);
        Check.isNot("must with a team that is out", () -> other.must(2, true));
    }

    private static void cold() {
        Gangline world = Check.trail(2);
        Check.same("cold at first", world.cold(0, -60), -10);
        Check.same("cold then", world.cold(0, 20), -60);
        Check.same("cold at last", world.cold(0, 0), 20);
        Check.same("cold of the other leg", world.cold(1, 0), -10);
        Check.out(world, "cold of leg -1", () -> world.cold(-1, 0));
        Check.out(world, "cold of leg 2", () -> world.cold(2, -61));
        Check.bad(world, "cold of -61", () -> world.cold(0, -61));
        Check.bad(world, "cold of 21", () -> world.cold(0, 21));
        Check.same("cold after wrong ones", world.cold(0, 5), 0);
        Gangline way = Check.begun(1, 1);
        Check.same("cold with a team on its way", way.cold(0, -31), -10);
    }

    /** What the degrees do to feet and water, at the edges. */
    private static void coldCounts() {
        int[][] due = {{-5, 100, 79}, {-4, 100, 69}, {20, 100, 69}, {-30, 100, 79}, {-31, 95, 79}};
        for (int[] row : due) {
            Gangline world = new Gangline();
            world.leg(43, 1, 0);
            world.leg(43, 1, 0);
            Check.addTeam(world, 5, 8, 3);
            world.cold(0, row[0]);
            world.begin(0, 60);
            world.run(0);
            Check.same("feet behind " + row[0] + " degrees", world.dogOf(4, 'f'), row[1]);
            Check.same("water behind " + row[0] + " degrees", world.dogOf(4, 'w'), row[2]);
        }
    }

    private static void storm() {
        Gangline world = Check.trail(2);
        Check.out(world, "storm on leg 2", () -> world.storm(2, -1, 0, 0));
        Check.out(world, "storm on leg -1", () -> world.storm(-1, 0, 0, 1));
        Check.bad(world, "storm from -1", () -> world.storm(0, -1, 0, 1));
        Check.bad(world, "storm to less", () -> world.storm(0, 5, 4, 1));
        Check.bad(world, "storm to 10000", () -> world.storm(0, 5, 10000, 1));
        Check.bad(world, "storm from 10000", () -> world.storm(0, 10000, 10000, 1));
        Check.bad(world, "storm of 0", () -> world.storm(0, 5, 5, 0));
        Check.bad(world, "storm of 10", () -> world.storm(0, 5, 5, 10));
        Check.same("storm 1", world.storm(0, 0, 9999, 1), 1);
        Check.same("storm 2", world.storm(1, 9999, 9999, 9), 2);
        for (int i = 3; i <= 12; i++) {
            Check.same("storm " + i, world.storm(1, 5, 5, 5), i);
        }
        Check.full(world, "a 13th storm", () -> world.storm(1, 5, 5, 5));
        Check.bad(world, "a 13th storm of 10", () -> world.storm(1, 5, 5, 10));
    }

    /** The strongest storm of the leg in the hour counts, and no other. */
    private static void stormCounts() {
        Gangline world = Check.begun(2, 1);
        Check.same("without a storm", world.estimate(0), 144);
        world.storm(1, 0, 9999, 9);
        Check.same("storm on another leg", world.estimate(0), 144);
        world.storm(0, 1, 2, 2);
        Check.same("storm in a later hour", world.estimate(0), 144);
        Check.same("storm with a team on its way", world.storm(0, 0, 0, 1), 3);
        Check.same("storm of 1", world.estimate(0), 40 * 7 * 120 / 200);
        world.storm(0, 0, 5, 3);
        world.storm(0, 0, 5, 2);
        Check.same("strongest storm of 3", world.estimate(0), 40 * 9 * 120 / 200);
        world.camp(0, 5);
        Check.same("storm's last hour", world.estimate(0), 40 * 9 * 120 / 200);
        world.camp(0, 1);
        Check.same("behind all storms", world.estimate(0), 144);
        Check.same("hours are cut", stormAfter(45, 1), 144);
        Gangline late = Check.ready(2, 1);
        late.begin(0, 39);
        Check.same("118 minutes", late.run(0), 118);
        late.storm(1, 2, 9999, 9);
        Check.same("are in the hour 1", late.run(0) > 0 ? 1 : 0, 1);
        Check.same("hour 1 begins", stormAfter(60, 1), 144 + 24);
    }

    /** Estimate at such a minute with a storm of 1 in the hour 1. */
    private static int stormAfter(int minute, int hour) {
        Gangline world = Check.begun(2, 1);
        world.storm(0, hour, hour, 1);
        if (minute == 45) {
            world.melt(0);
        } else {
            world.camp(0, minute / 60);
        }
        return world.estimate(0);
    }

    private static void must() {
        Gangline world = Check.trail(3);
        Check.out(world, "must at the first checkpoint", () -> world.must(0, true));
        Check.out(world, "must at the finish", () -> world.must(3, true));
        Check.out(world, "must at -1", () -> world.must(-1, true));
        Check.isNot("must at first", () -> world.must(1, true));
        Check.is("must then", () -> world.must(1, true));
        Check.is("must taken away", () -> world.must(1, false));
        Check.isNot("must at last", () -> world.must(1, false));
        Check.isNot("must at the last checkpoint but the finish", () -> world.must(2, false));
        world.leg(40, 1, 0);
        Check.isNot("must at what was the finish", () -> world.must(3, true));
        Check.addTeam(world, 5, 8, 3);
        world.begin(0, 0);
        Check.out(world, "must out of range, on its way", () -> world.must(4, true));
        Check.cannot(world, "must on its way", () -> world.must(3, false));
        world.scratch(0);
        Check.is("must that stayed", () -> world.must(3, false));
    }

    private static void team() {
        Gangline world = new Gangline();
        for (int i = 0; i < 6; i++) {
            Check.same("team " + i, world.team(), i);
            Check.text("team at first", ahead(world, i), "m0 c0 k0 s100 b0 p3 o6 d0 e0 f0 --0");
        }
        Check.full(world, "a 7th team", () -> world.team());
    }

    private static String ahead(Gangline world, int team) {
        StringBuilder all = new StringBuilder();
        for (char what : "mcksbpodef".toCharArray()) {
            all.append(what).append(world.teamOf(team, what)).append(' ');
        }
        return all.append(world.raceOf(team)).append(world.why(team)).append(world.owed(team)).toString();
    }

    private static void dog() {
        Gangline world = new Gangline();
        world.team();
        world.team();
        Check.out(world, "dog of team 2", () -> world.dog(2, 0, 0));
        Check.out(world, "dog of team -1", () -> world.dog(-1, 1, 0));
        Check.bad(world, "strength 0", () -> world.dog(0, 0, 0));
        Check.bad(world, "strength 10", () -> world.dog(0, 10, 0));
        Check.bad(world, "lead -1", () -> world.dog(0, 1, -1));
        Check.bad(world, "lead 10", () -> world.dog(0, 1, 10));
        Check.same("dog 0", world.dog(1, 1, 0), 0);
        Check.same("dog 1", world.dog(0, 9, 9), 1);
        Check.same("strength", world.dogOf(0, 's'), 1);
        Check.same("lead", world.dogOf(1, 'l'), 9);
        Check.same("age", world.dogOf(0, 'a'), 2);
        Check.same("kennel", world.dogOf(0, 'k'), 1);
        Check.same("trust", world.dogOf(0, 't'), 5);
        Check.same("feet, food and water", world.dogOf(0, 'f') + world.dogOf(0, 'e') + world.dogOf(0, 'w'), 300);
        Check.same("pull", world.dogOf(1, 'p'), 45);
        Check.letter("state", world.stateOf(0), 'k');
        Check.isNot("must stop", () -> world.mustStop(0));
        for (int i = 2; i < 40; i++) {
            Check.same("dog " + i, world.dog(0, 5, 5), i);
        }
        Check.full(world, "a 41st dog", () -> world.dog(0, 5, 5));
        Check.bad(world, "a 41st dog of strength 10", () -> world.dog(0, 10, 5));
        Check.full(world, "a pup as the 41st dog", () -> world.litter(1, 2));
    }

    private static void lease() {
        Gangline world = Check.ready(2, 2);
        int dog = world.dog(0, 5, 5);
        Check.out(world, "lease of dog 11", () -> world.lease(11, 0));
        Check.out(world, "lease of dog -1", () -> world.lease(-1, 0));
        Check.out(world, "lease to team 2", () -> world.lease(dog, 2));
        Check.out(world, "lease to team -1", () -> world.lease(dog, -1));
        Check.same("lease", world.lease(dog, 1), 0);
        Check.same("leased", world.dogOf(dog, 'k'), 1);
        Check.cannot(world, "hitch by the kennel's team", () -> world.hitch(0, dog));
        Check.same("lease again", world.lease(dog, 1), 1);
        Check.same("hitch by the leaser", world.hitch(1, dog), 6);
        Check.cannot(world, "lease of a hitched dog", () -> world.lease(dog, 0));
        world.begin(1, 0);
        Check.cannot(world, "lease of a dog in a race", () -> world.lease(dog, 0));
        world.scratch(1);
        world.endYear();
        Check.same("leases go", world.dogOf(dog, 'k'), 0);
        for (int i = 0; i < 6; i++) {
            world.endYear();
        }
        Check.letter("state", world.stateOf(dog), 'o');
        Check.cannot(world, "lease of a retired dog", () -> world.lease(dog, 1));
    }

    private static void leaseOfDroppedDog() {
        Gangline world = Check.begun(2, 2);
        world.drop(0, 2);
        Check.same("lease of a dropped dog", world.lease(2, 1), 0);
        world.scratch(1);
        Check.same("lease of a dog whose team is out", world.lease(7, 0), 1);
        Check.same("dogs with the team that is out", world.teamOf(1, 'd'), 5);
    }

    private static void hitch() {
        Gangline world = new Gangline();
        world.leg(40, 1, 0);
        world.team();
        world.team();
        for (int i = 0; i < 15; i++) {
            world.dog(0, 5, 5);
        }
        int foreign = world.dog(1, 5, 5);
        int pup = world.litter(0, 1);
        Check.out(world, "hitch by team 2", () -> world.hitch(2, 0));
        Check.out(world, "hitch of dog 17", () -> world.hitch(0, 17));
        Check.out(world, "hitch of dog -1", () -> world.hitch(0, -1));
        Check.cannot(world, "hitch of another's dog", () -> world.hitch(0, foreign));
        Check.cannot(world, "hitch of a pup", () -> world.hitch(0, pup));
        for (int i = 0; i < 14; i++) {
            Check.same("hitch " + i, world.hitch(0, i), i + 1);
            Check.letter("state", world.stateOf(i), 'h');
        }
        Check.full(world, "a 15th dog", () -> world.hitch(0, 14));
        Check.cannot(world, "a hitched dog as the 15th", () -> world.hitch(0, 3));
        Check.same("dogs with it", world.teamOf(0, 'd'), 14);
        world.begin(0, 0);
        Check.cannot(world, "hitch behind the beginning", () -> world.hitch(0, 14));
        world.scratch(0);
        world.endYear();
        Check.same("hitch of a dog of 1 year", world.hitch(0, pup), 1);
        for (int i = 0; i < 6; i++) {
            world.endYear();
        }
        Check.same("age", world.dogOf(14, 'a'), 9);
        Check.cannot(world, "hitch of a retired dog", () -> world.hitch(0, 14));
        Check.same("hitch of one of 7 years", world.hitch(0, pup), 1);
    }

    private static void hitchOfDroppedDog() {
        Gangline world = Check.ready(2, 1);
        world.team();
        world.begin(0, 0);
        world.drop(0, 2);
        world.lease(2, 1);
        Check.cannot(world, "a dropped dog returns", () -> world.hitch(1, 2));
        world.scratch(0);
        world.endYear();
        world.lease(2, 1);
        Check.same("a dropped dog of last year", world.hitch(1, 2), 1);
    }

    private static void send() {
        Gangline world = Check.ready(3, 2);
        Check.out(world, "send by team 2", () -> world.send(2, 1, 0));
        Check.out(world, "send to the first checkpoint", () -> world.send(0, 0, 1));
        Check.out(world, "send to the finish", () -> world.send(0, 3, 0));
        Check.bad(world, "send 0", () -> world.send(0, 1, 0));
        Check.bad(world, "send 301", () -> world.send(0, 1, 301));
        Check.same("send 100", world.send(0, 1, 100), 100);
        Check.same("send 1", world.send(0, 1, 1), 101);
        Check.full(world, "send 200", () -> world.send(0, 2, 200));
        Check.same("send 199", world.send(0, 2, 199), 300);
        Check.full(world, "send 1 more", () -> world.send(0, 2, 1));
        Check.same("send by another", world.send(1, 2, 300), 300);
        world.begin(0, 0);
        Check.cannot(world, "send behind the beginning", () -> world.send(0, 2, 1));
        world.run(0);
        Check.full(world, "take 102", () -> world.take(0, 102));
        Check.same("take 101", world.take(0, 101), 101);
        world.scratch(0);
        Check.cannot(world, "send when out", () -> world.send(0, 2, 1));
        world.endYear();
        Check.same("send in the next year", world.send(0, 1, 300), 300);
    }

    private static void begin() {
        Gangline world = Check.ready(2, 2);
        world.team();
        for (int i = 0; i < 4; i++) {
            world.hitch(2, world.dog(2, 5, 5));
        }
        Check.out(world, "begin of team 3", () -> world.begin(3, -1));
        Check.bad(world, "begin with -1", () -> world.begin(0, -1));
        Check.bad(world, "begin with 201", () -> world.begin(0, 201));
        Check.bad(world, "begin with 201 and 4 dogs", () -> world.begin(2, 201));
        Check.cannot(world, "begin with 4 dogs", () -> world.begin(2, 200));
        Check.same("begin", world.begin(1, 200), 0);
        Check.text("team then", ahead(world, 1), "m0 c0 k200 s100 b0 p3 o6 d5 e0 f0 r-1440");
        Check.letter("dog then", world.stateOf(5), 'r');
        Check.letter("dog of another", world.stateOf(0), 'h');
        Check.cannot(world, "begin again", () -> world.begin(1, 0));
        world.hitch(2, world.dog(2, 5, 5));
        Check.same("second begin", world.begin(2, 0), 2);
        world.scratch(2);
        Check.cannot(world, "begin when out", () -> world.begin(2, 0));
        Check.same("third begin", world.begin(0, 0), 4);
        Check.same("minute then", world.teamOf(0, 'm'), 4);
        Gangline bare = Check.ready(0, 1);
        Check.cannot(bare, "begin without legs", () -> bare.begin(0, 0));
    }

    /** Dogs are fresh as a race begins; none begins behind a long rest, until the year ends. */
    private static void beginLater() {
        Gangline world = new Gangline();
        world.leg(100, 9, 0);
        world.leg(5, 9, -6);
        world.leg(5, 0, 0);
        Check.addTeam(world, 5, 9, 0);
        Check.addTeam(world, 5, 9, 0);
        world.cold(1, -31);
        world.begin(0, 100);
        world.run(0);
        Check.same("feet", world.dogOf(0, 'f'), 82);
        Check.same("trust", world.dogOf(0, 't'), 4);
        world.mend(0);
        world.exchange(0);
        world.restLong(0);
        Check.same("feet behind the rest", world.dogOf(0, 'f'), 100);
        world.melt(0);
        Check.same("run with little food", world.run(0) > 0 ? 1 : 0, 1);
        Check.cannot(world, "begin behind a long rest", () -> world.begin(1, 0));
        world.scratch(0);
        Check.cannot(world, "begin behind the long rest of a team that is out", () -> world.begin(1, 0));
        Check.same("the year ends", world.endYear(), 1);
        Check.text("team then", ahead(world, 0), "m0 c0 k0 s100 b0 p3 o6 d0 e0 f0 --0");
        Check.same("food stays", world.dogOf(0, 'e'), 14);
        Check.same("feet stay", world.dogOf(0, 'f'), 95);
        for (int i = 0; i < 5; i++) {
            world.hitch(0, i);
        }
        Check.same("begin in the next year", world.begin(0, 0), 0);
        Check.same("food", world.dogOf(0, 'e'), 100);
        Check.same("water", world.dogOf(0, 'w'), 100);
        Check.same("feet", world.dogOf(0, 'f'), 100);
        Check.same("trust", world.dogOf(0, 't'), 5);
    }
}
