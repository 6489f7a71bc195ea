import java.util.NoSuchElementException;

/**
 * Tells whether a call is refused as the document asks, and leaves nothing behind: two worlds are made alike, the call
 * is done on one of them, and then a long series of calls, which uses up all that a world holds, must answer the same
 * on both.
 */
final class Bounds {
    static final Class<IllegalArgumentException> BAD = IllegalArgumentException.class;
    static final Class<IndexOutOfBoundsException> OUT = IndexOutOfBoundsException.class;
    static final Class<UnsupportedOperationException> CANNOT = UnsupportedOperationException.class;
    static final Class<IllegalStateException> FULL = IllegalStateException.class;
    static final Class<NoSuchElementException> NONE = NoSuchElementException.class;
    static final Class<ArithmeticException> NO_NUMBER = ArithmeticException.class;

    private Bounds() {
    }

    interface Maker {
        Gangline make();
    }

    interface Call {
        Object on(Gangline world);
    }

    interface Numbered {
        Object on(Gangline world, int number);
    }

    /** The call must throw exactly this class, and change nothing, what why() tells included. */
    static void refused(String what, Class<? extends RuntimeException> due, Maker maker, Call call) {
        Gangline world = maker.make();
        Gangline like = maker.make();
        Check.text(what + " throws", thrownBy(world, call), due.getSimpleName());
        for (int team = 0; team < Check.teamsOf(like); team++) {
            Check.letter(what + " leaves why() of " + team, world.why(team), like.why(team));
        }
        leavesNothing(what, maker, call);
    }

    /** The call must throw exactly this class, and change nothing but what why() tells of this team: this letter. */
    static void barred(String what, int team, char letter, Class<? extends RuntimeException> due, Maker maker,
            Call call) {
        Gangline world = maker.make();
        Gangline like = maker.make();
        Check.text(what + " throws", thrownBy(world, call), due.getSimpleName());
        for (int other = 0; other < Check.teamsOf(like); other++) {
            Check.letter(what + " leaves why() of " + other, world.why(other), other == team ? letter
                : like.why(other));
        }
        leavesNothing(what, maker, call);
    }

    private static void leavesNothing(String what, Maker maker, Call call) {
        sameAnswers(what + " leaves", Probe.allOf(behind(maker, call)), Probe.allOf(behind(maker, x -> null)));
        sameAnswers(what + " leaves legs", Probe.legsOf(behind(maker, call)), Probe.legsOf(behind(maker, x -> null)));
    }

    /** A world behind the call; why() of all its teams tells of their plans, whatever it told before. */
    private static Gangline behind(Maker maker, Call call) {
        Gangline world = maker.make();
        thrownBy(world, call);
        for (int team = 0; team < Check.teamsOf(world); team++) {
            world.isAdmitted(team);
        }
        return world;
    }

    /** Only the first answer that differs is told. */
    private static void sameAnswers(String what, String got, String due) {
        String[] ours = got.split(" ");
        String[] theirs = due.split(" ");
        int place = 0;
        while (place < ours.length - 1 && place < theirs.length - 1 && ours[place].equals(theirs[place])) {
            place++;
        }
        Check.text(what + ", answer " + place, ours[place], theirs[place]);
    }

    /** Refused with IllegalArgumentException for each number that is just beside the range, or far from it. */
    static void range(String what, int least, int most, Maker maker, Numbered call) {
        for (int number : beside(least, most)) {
            if (number < least || number > most) {
                refused(what + " " + number, BAD, maker, x -> call.on(x, number));
            }
        }
        for (int number : new int[] {least, most}) {
            Check.text(what + " " + number + " throws", thrownBy(maker.make(), x -> call.on(x, number)), "nothing");
        }
    }

    /** Refused with IndexOutOfBoundsException for each number beside 0 to the last one, which are not. */
    static void index(String what, int last, Maker maker, Numbered call) {
        for (int number : beside(0, last)) {
            refused(what + " " + number, OUT, maker, x -> call.on(x, number));
        }
    }

    static String thrownBy(Gangline world, Call call) {
        try {
            call.on(world);
        } catch (RuntimeException e) {
            return e.getClass().getSimpleName();
        }
        return "nothing";
    }

    /** The numbers just beside a range, the extreme ones, and some that come back into it when cut to fewer bits. */
    static int[] beside(int least, int most) {
        return new int[] {least - 1, most + 1, Integer.MIN_VALUE, Integer.MAX_VALUE, most + 256, least + 65536,
            least - 65536};
    }

    /**
     * A world in the middle of a year: 5 legs, teams 0 and 1 on their way at checkpoint 1, team 2 about to begin, team
     * 3 with dogs in the kennel, a lease, a litter, training, storms, rests, kilos sent, plans, a purse.
     */
    static Gangline rich() {
        Gangline world = new Gangline();
        world.leg(40, 2, 0);
        world.leg(30, 4, -6);
        world.leg(60, 3, 2);
        world.leg(20, 1, 0);
        world.leg(50, 5, 1);
        world.cold(1, -35);
        world.cold(2, 5);
        world.must(2, true);
        world.must(3, true);
        Check.addTeam(world, 6, 8, 3);
        Check.addTeam(world, 5, 7, 6);
        Check.addTeam(world, 5, 9, 0);
        world.team();
        for (int strength = 4; strength <= 6; strength++) {
            world.dog(3, strength, strength + 2);
        }
        world.litter(16, 17);
        world.train(16, 100);
        world.lease(18, 2);
        world.send(0, 1, 100);
        world.send(0, 2, 50);
        world.send(1, 1, 60);
        world.send(2, 1, 30);
        world.storm(2, 0, 200, 4);
        world.storm(3, 5, 9, 9);
        world.purse(1001);
        world.begin(0, 80);
        world.begin(1, 100);
        world.boots(0, true);
        world.run(0);
        world.run(1);
        world.take(0, 20);
        world.feed(0, 1);
        world.help(1);
        world.order(0, 'w', 0);
        world.order(0, 'c', 2);
        world.order(0, 'r', 0);
        world.order(1, 'f', 1);
        world.order(2, 'l', 0);
        return world;
    }

    /** The same with teams 0 and 1 out: no team is on its way. */
    static Gangline halted() {
        Gangline world = rich();
        world.scratch(0);
        world.scratch(1);
        return world;
    }
}
