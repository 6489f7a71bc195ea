import java.util.ArrayList;
import java.util.List;
import java.util.Random;

/**
 * Long runs of calls, the same ones each time: a call throws only what its promise names, and then changes nothing
 * but what why() tells; isTrue() holds; a plan does what its orders do as calls, one by one.
 */
public final class RandomTest {
    private static final String IAE = "IllegalArgumentException";
    private static final String IOOBE = "IndexOutOfBoundsException";
    private static final String UOE = "UnsupportedOperationException";
    private static final String ISE = "IllegalStateException";
    private static final String NSEE = "NoSuchElementException";
    private static final String AE = "ArithmeticException";

    private interface Step {
        Object on(Gangline world);
    }

    private final Random random;
    private final Gangline world = new Gangline();
    private final List<Step> done = new ArrayList<>();

    private RandomTest(long seed) {
        random = new Random(seed);
    }

    public static void main(String[] args) {
        int followed = 0;
        for (int seed = 0; seed < 300; seed++) {
            followed += new RandomTest(seed).walk();
        }
        Check.same("plans were followed", followed > 100 ? 1 : 0, 1);
        Check.end("RandomTest");
    }

    private int walk() {
        int followed = 0;
        setUp();
        for (int i = 0; i < 120; i++) {
            if (random.nextInt(12) == 0) {
                followed += plan();
            } else if (random.nextInt(3) > 0) {
                onWay();
            } else {
                any();
            }
        }
        return followed;
    }

    private void setUp() {
        int legs = 1 + random.nextInt(8);
        for (int i = 0; i < legs; i++) {
            int length = 5 + random.nextInt(80);
            int surface = random.nextInt(10);
            int climb = random.nextInt(19) - 9;
            call("", x -> x.leg(length, surface, climb));
        }
        int teams = 1 + random.nextInt(4);
        for (int team = 0; team < teams; team++) {
            int number = team;
            call("", x -> x.team());
            for (int i = 0; i < 5 + random.nextInt(3); i++) {
                int strength = 3 + random.nextInt(7);
                int lead = random.nextInt(10);
                call("", x -> x.dog(number, strength, lead));
            }
        }
        hitchAll();
    }

    private void hitchAll() {
        for (int dog = 0; dog < Check.dogsOf(world); dog++) {
            int hitched = dog;
            int team = world.dogOf(dog, 'k');
            call(IOOBE + UOE + ISE, x -> x.hitch(team, hitched));
        }
    }

    private int team() {
        return random.nextInt(20) == 0 ? random.nextInt(9) - 1 : random.nextInt(Math.max(1, Check.teamsOf(world)));
    }

    private int dog() {
        return random.nextInt(20) == 0 ? random.nextInt(43) - 1 : random.nextInt(Math.max(1, Check.dogsOf(world)));
    }

    /** A number from least to most, now and then one beside them. */
    private int number(int least, int most) {
        switch (random.nextInt(24)) {
            case 0:
                return least - 1;
            case 1:
                return most + 1;
            case 2:
                return random.nextInt();
            default:
                return least + random.nextInt(most - least + 1);
        }
    }

    private void onWay() {
        int team = team();
        int small = number(1, 3);
        int kilos = number(1, 60);
        switch (random.nextInt(13)) {
            case 0:
            case 1:
            case 2:
                call(IOOBE + UOE, x -> x.run(team));
                break;
            case 3:
                call(IOOBE + IAE + UOE, x -> x.camp(team, small * 3));
                break;
            case 4:
                if (random.nextInt(4) == 0) {
                    call(IOOBE + UOE, x -> x.restLong(team));
                }
                break;
            case 5:
                call(IOOBE + UOE, x -> x.restMust(team));
                break;
            case 6:
                call(IOOBE + IAE + UOE + ISE, x -> x.take(team, kilos));
                break;
            case 7:
                call(IOOBE + IAE + UOE + ISE, x -> x.feed(team, small));
                break;
            case 8:
                call(IOOBE + UOE, x -> x.melt(team));
                break;
            case 9:
                call(IOOBE + UOE, x -> x.boots(team, small > 1));
                break;
            case 10:
                call(IOOBE + UOE + ISE, x -> x.mend(team));
                break;
            case 11:
                call(IOOBE + UOE + ISE, x -> x.exchange(team));
                break;
            default:
                call(IOOBE + IAE + UOE, x -> x.begin(team, kilos * 3));
                break;
        }
    }

    private void any() {
        int team = team();
        int other = team();
        int dog = dog();
        int second = dog();
        int leg = number(0, 9);
        int small = number(1, 9);
        int more = number(0, 120);
        boolean is = random.nextBoolean();
        char letter = "fewtslakpmcbod-".charAt(random.nextInt(15));
        switch (random.nextInt(30)) {
            case 0:
                call(IAE + UOE + ISE, x -> x.leg(more, small, small - 5));
                break;
            case 1:
                call(IOOBE + IAE, x -> x.cold(leg, more - 90));
                break;
            case 2:
                call(IOOBE + IAE + ISE, x -> x.storm(leg, more, more + small * 3, small));
                break;
            case 3:
                call(IOOBE + UOE, x -> x.must(leg, is));
                break;
            case 4:
                call(ISE, x -> x.team());
                break;
            case 5:
                call(IOOBE + IAE + ISE, x -> x.dog(team, small, leg));
                break;
            case 6:
                call(IOOBE + UOE, x -> x.lease(dog, team));
                break;
            case 7:
                call(IOOBE + UOE + ISE, x -> x.hitch(team, dog));
                break;
            case 8:
            case 9:
                call(IOOBE + IAE + UOE + ISE, x -> x.send(team, leg, more));
                break;
            case 10:
                call(IOOBE + IAE + UOE + ISE, x -> x.give(team, other, small));
                break;
            case 11:
                call(IOOBE + UOE, x -> x.help(team));
                break;
            case 12:
                call(IOOBE + UOE, x -> x.drop(team, dog));
                break;
            case 13:
                if (is) {
                    call(IOOBE, x -> x.scratch(team));
                }
                break;
            case 14:
                call(IOOBE + IAE + NSEE, x -> x.bestPlan(team, small / 2));
                break;
            case 15:
                call(IOOBE + NSEE, x -> x.forecast(team));
                break;
            case 16:
                call(IOOBE, x -> x.isAdmitted(team));
                break;
            case 17:
                call(IOOBE + IAE, x -> x.dogOf(dog, letter));
                break;
            case 18:
                call(IOOBE + IAE, x -> x.teamOf(team, letter));
                break;
            case 19:
                call(IOOBE, x -> x.standing(small));
                break;
            case 20:
                call(IOOBE + UOE, x -> x.estimate(team));
                break;
            case 21:
                call(IAE, x -> x.purse(more * 100));
                break;
            case 22:
            case 23:
                call(UOE, x -> x.endYear());
                hitchAll();
                break;
            case 24:
                call(IOOBE + IAE + UOE + ISE, x -> x.litter(dog, second));
                break;
            case 25:
                call(IOOBE, x -> x.areKin(dog, second));
                break;
            case 26:
                call(IOOBE + IAE + UOE, x -> x.train(dog, more));
                break;
            case 27:
                call(AE, x -> x.inShare());
                break;
            case 28:
                call(AE, x -> x.meanFeet());
                break;
            default:
                call(IOOBE, x -> x.owed(team));
                break;
        }
    }

    /** Does the step and looks at what it threw; answers whether it threw nothing. */
    private boolean call(String mayThrow, Step step) {
        String before = Check.stateOf(world, false);
        done.add(step);
        boolean threw = false;
        try {
            step.on(world);
        } catch (RuntimeException e) {
            threw = true;
            String name = e.getClass().getSimpleName();
            Check.is(name + " is named by the promise", () -> mayThrow.contains(name));
            Check.text("a call that throws leaves", Check.stateOf(world, false), before);
            leavesNothing();
        }
        Check.is("isTrue", () -> world.isTrue());
        return !threw;
    }

    /** Now and then: a twin without the last call, which threw, answers all later ones as one with it. */
    private void leavesNothing() {
        if (random.nextInt(40) > 0) {
            return;
        }
        Gangline with = new Gangline();
        Gangline without = new Gangline();
        for (int i = 0; i < done.size(); i++) {
            quietly(with, done.get(i));
            if (i + 1 < done.size()) {
                quietly(without, done.get(i));
            }
        }
        for (int team = 0; team < Check.teamsOf(world); team++) {
            with.isAdmitted(team);
            without.isAdmitted(team);
        }
        Check.text("what a call that throws leaves", Probe.allOf(with), Probe.allOf(without));
    }

    /** Makes a plan of a team and, if it is admitted, follows it here and does its orders one by one on a twin. */
    private int plan() {
        int team = random.nextInt(Check.teamsOf(world));
        char[] kinds = new char[1 + random.nextInt(8)];
        int[] numbers = new int[kinds.length];
        call("", x -> x.clear(team));
        for (int i = 0; i < kinds.length; i++) {
            kinds[i] = "rrrcfwbblmd".charAt(random.nextInt(11));
            numbers[i] = kinds[i] == 'b' ? random.nextInt(2) : 1 + random.nextInt(3);
            char kind = kinds[i];
            int number = numbers[i];
            call("", x -> x.order(team, kind, number));
        }
        Gangline twin = new Gangline();
        for (Step step : done) {
            quietly(twin, step);
        }
        Check.text("twin", Check.stateOf(twin, true), Check.stateOf(world, true));
        char bar = oneByOne(twin, team, kinds, numbers);
        boolean admitted = world.isAdmitted(team);
        Check.same("admitted", admitted ? 1 : 0, bar == '-' ? 1 : 0);
        Check.letter("why", world.why(team), bar);
        if (!admitted) {
            call("", x -> x.isAdmitted(team));
            return 0;
        }
        Check.same("forecast", world.forecast(team), twin.teamOf(team, 'm') - world.teamOf(team, 'm'));
        call("", x -> x.follow(team));
        Check.text("followed", Check.stateOf(world, true), Check.stateOf(twin, true));
        return 1;
    }

    private static void quietly(Gangline twin, Step step) {
        try {
            step.on(twin);
        } catch (RuntimeException e) {
            // The world threw it too, and nothing else was changed by it.
        }
    }

    private static char oneByOne(Gangline twin, int team, char[] kinds, int[] numbers) {
        for (int i = 0; i < kinds.length; i++) {
            boolean[] here = new boolean[40];
            for (int dog = 0; dog < Check.dogsOf(twin); dog++) {
                here[dog] = twin.stateOf(dog) == 'r' && twin.dogOf(dog, 'k') == team;
            }
            try {
                order(twin, team, kinds[i], numbers[i]);
            } catch (RuntimeException e) {
                return twin.why(team);
            }
            char state = stateBehind(twin, here);
            if (state != '-') {
                return state;
            }
        }
        return '-';
    }

    private static char stateBehind(Gangline twin, boolean[] here) {
        char state = '-';
        for (int dog = 0; dog < Check.dogsOf(twin); dog++) {
            if (here[dog] && twin.stateOf(dog) == 'x') {
                return 'x';
            }
            if (here[dog] && twin.mustStop(dog)) {
                state = 's';
            }
        }
        return state;
    }

    private static void order(Gangline twin, int team, char kind, int number) {
        switch (kind) {
            case 'r':
                twin.run(team);
                break;
            case 'c':
                twin.camp(team, number);
                break;
            case 'f':
                twin.feed(team, number);
                break;
            case 'w':
                twin.melt(team);
                break;
            case 'b':
                twin.boots(team, number == 1);
                break;
            case 'l':
                twin.restLong(team);
                break;
            case 'm':
                twin.restMust(team);
                break;
            default:
                twin.take(team, number);
                break;
        }
    }
}
