import java.util.function.BooleanSupplier;

/** Counts the answers that are not as due, and builds the worlds that the tests begin with. */
final class Check {
    private static int asked;
    private static int wrong;

    private Check() {
    }

    interface Call {
        Object answer();
    }

    static void same(String what, long got, long want) {
        asked++;
        if (got != want) {
            wrong++;
            System.out.println(what + " answered " + got + ", due is " + want);
        }
    }

    static void letter(String what, char got, char want) {
        asked++;
        if (got != want) {
            wrong++;
            System.out.println(what + " answered '" + got + "', due is '" + want + "'");
        }
    }

    static void number(String what, double got, double want) {
        asked++;
        if (got != want) {
            wrong++;
            System.out.println(what + " answered " + got + ", due is " + want);
        }
    }

    static void text(String what, String got, String want) {
        asked++;
        if (!got.equals(want)) {
            wrong++;
            System.out.println(what + " answered\n  " + got + ", due is\n  " + want);
        }
    }

    static void is(String what, BooleanSupplier call) {
        same(what, call.getAsBoolean() ? 1 : 0, 1);
    }

    static void isNot(String what, BooleanSupplier call) {
        same(what, call.getAsBoolean() ? 1 : 0, 0);
    }

    /** The call must throw exactly this class, and change nothing but what why() tells. */
    static void refuses(Gangline world, String what, Class<? extends RuntimeException> due, Call call) {
        String before = stateOf(world, false);
        String got = "nothing";
        try {
            call.answer();
        } catch (RuntimeException e) {
            got = e.getClass().getSimpleName();
        }
        text(what + " throws", got, due.getSimpleName());
        text(what + " leaves", stateOf(world, false), before);
    }

    /** The same, where why() must stay too. */
    static void refusesQuietly(Gangline world, String what, Class<? extends RuntimeException> due, Call call) {
        String before = stateOf(world, true);
        refuses(world, what, due, call);
        text(what + " leaves why()", stateOf(world, true), before);
    }

    static void out(Gangline world, String what, Call call) {
        refusesQuietly(world, what, IndexOutOfBoundsException.class, call);
    }

    static void bad(Gangline world, String what, Call call) {
        refusesQuietly(world, what, IllegalArgumentException.class, call);
    }

    static void cannot(Gangline world, String what, Call call) {
        refuses(world, what, UnsupportedOperationException.class, call);
    }

    static void full(Gangline world, String what, Call call) {
        refuses(world, what, IllegalStateException.class, call);
    }

    /** The call must throw this, and why() must tell the letter then. */
    static void barred(Gangline world, int team, char why, String what, Class<? extends RuntimeException> due,
            Call call) {
        refuses(world, what, due, call);
        letter("why() after " + what, world.why(team), why);
    }

    static void barred(Gangline world, int team, char why, String what, Call call) {
        barred(world, team, why, what, UnsupportedOperationException.class, call);
    }

    static int dogsOf(Gangline world) {
        int count = 0;
        while (true) {
            try {
                world.stateOf(count);
            } catch (IndexOutOfBoundsException e) {
                return count;
            }
            count++;
        }
    }

    static int teamsOf(Gangline world) {
        int count = 0;
        while (true) {
            try {
                world.raceOf(count);
            } catch (IndexOutOfBoundsException e) {
                return count;
            }
            count++;
        }
    }

    /** All that can be asked without changing anything. */
    static String stateOf(Gangline world, boolean withWhy) {
        StringBuilder all = new StringBuilder();
        int teams = teamsOf(world);
        for (int team = 0; team < teams; team++) {
            all.append(" team ").append(team).append(world.raceOf(team)).append(world.owed(team));
            for (char what : "mckdsbpoef".toCharArray()) {
                all.append(' ').append(what).append(world.teamOf(team, what));
            }
            if (world.raceOf(team) == 'r') {
                all.append(" next ").append(world.estimate(team));
            }
            if (withWhy) {
                all.append(world.why(team));
            }
        }
        int dogs = dogsOf(world);
        for (int dog = 0; dog < dogs; dog++) {
            all.append(" dog ").append(dog).append(world.stateOf(dog));
            for (char what : "fewtslakp".toCharArray()) {
                all.append(' ').append(what).append(world.dogOf(dog, what));
            }
        }
        return all.append(standings(world)).append(' ').append(world.purse(0)).append(world.isTrue()).toString();
    }

    static String standings(Gangline world) {
        StringBuilder places = new StringBuilder(" places");
        for (int place = 0; ; place++) {
            try {
                int team = world.standing(place);
                places.append(' ').append(team);
            } catch (IndexOutOfBoundsException e) {
                return places.toString();
            }
        }
    }

    /** A team with so many dogs in its order, all of one strength and lead; answers the first dog. */
    static int addTeam(Gangline world, int dogs, int strength, int lead) {
        int team = world.team();
        int first = -1;
        for (int i = 0; i < dogs; i++) {
            int dog = world.dog(team, strength, lead);
            world.hitch(team, dog);
            first = first < 0 ? dog : first;
        }
        return first;
    }

    /** Legs of 40 kilometres, surface 1, no climb. */
    static Gangline trail(int legs) {
        Gangline world = new Gangline();
        for (int i = 0; i < legs; i++) {
            world.leg(40, 1, 0);
        }
        return world;
    }

    /** Such legs and teams of 5 dogs of strength 8 and lead 3, which have not begun. */
    static Gangline ready(int legs, int teams) {
        Gangline world = trail(legs);
        for (int i = 0; i < teams; i++) {
            addTeam(world, 5, 8, 3);
        }
        return world;
    }

    /** The same, with all teams on their way, 60 kilos on each sled. */
    static Gangline begun(int legs, int teams) {
        Gangline world = ready(legs, teams);
        for (int i = 0; i < teams; i++) {
            world.begin(i, 60);
        }
        return world;
    }

    static void end(String name) {
        System.out.println(name + ": " + asked + " answers asked, " + wrong + " not as due");
        if (wrong > 0 || asked == 0) {
            System.exit(1);
        }
    }
}
