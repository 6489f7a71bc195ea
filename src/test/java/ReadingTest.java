import java.lang.reflect.InvocationTargetException;
import java.lang.reflect.Method;
import java.lang.reflect.Modifier;
import java.util.ArrayList;
import java.util.Arrays;
import java.util.Collections;
import java.util.HashMap;
import java.util.List;
import java.util.Map;
import java.util.Random;

/**
 * Runs of calls over some years, the same ones each time: the class answers each as a second reading does. No object is
 * used for more calls than the document promises anything about.
 */
public final class ReadingTest {
    private static final int RUNS = 1500;
    private static final int YEARS = 9;
    private static final int MOST_CALLS = 512;
    private static final Map<String, Method> CALLS = new HashMap<>();
    private static final Map<String, Method> READINGS = new HashMap<>();

    private final int run;
    private final Random random;
    private final Gangline world = new Gangline();
    private final Reading reading = new Reading();
    private final List<String> log = new ArrayList<>();
    private boolean differs;

    private ReadingTest(int run) {
        this.run = run;
        random = new Random(run);
    }

    public static void main(String[] args) throws ReflectiveOperationException {
        for (Method method : Gangline.class.getDeclaredMethods()) {
            if (Modifier.isPublic(method.getModifiers())) {
                CALLS.put(method.getName(), method);
                READINGS.put(method.getName(),
                    Reading.class.getDeclaredMethod(method.getName(), method.getParameterTypes()));
            }
        }
        for (int run = 0; run < RUNS; run++) {
            new ReadingTest(run).go();
        }
        Check.end("ReadingTest");
    }

    // ---- calls on both

    private void call(String name, Object... arguments) throws ReflectiveOperationException {
        if (isOver()) {
            return;
        }
        Object got = answer(CALLS.get(name), world, arguments);
        Object due = answer(READINGS.get(name), reading, arguments);
        String line = name + Arrays.toString(arguments);
        log.add(line);
        Check.text("run " + run + ", call " + log.size() + ": " + line, got.toString(), due.toString());
        differs = !got.equals(due);
        if (differs) {
            tell();
        }
    }

    private boolean isOver() {
        return differs || log.size() >= MOST_CALLS;
    }

    private static Object answer(Method method, Object on, Object[] arguments) throws ReflectiveOperationException {
        try {
            return method.invoke(on, arguments);
        } catch (InvocationTargetException e) {
            return "throws." + e.getCause().getClass().getSimpleName();
        }
    }

    /** The calls that led to it, without those that only ask. */
    private void tell() {
        for (String made : log) {
            if (!made.matches("(dogOf|stateOf|mustStop|teamOf|raceOf|owed|why|estimate|standing|in|mean|is|are).*")) {
                System.out.println("    " + made);
            }
        }
    }

    private void ask(int times) throws ReflectiveOperationException {
        for (int i = 0; i < times; i++) {
            switch (random.nextInt(6)) {
                case 0, 1 -> askOfTeam();
                case 2, 3 -> askOfDog();
                case 4 -> call("standing", random.nextInt(oneIn(4) ? 7 : 2));
                default -> call(List.of("inShare", "meanFeet", "isTrue").get(random.nextInt(3)));
            }
        }
    }

    private void askOfTeam() throws ReflectiveOperationException {
        if (oneIn(2)) {
            call("teamOf", team(), "mckdsbpoef-".charAt(random.nextInt(11)));
        } else {
            call(List.of("raceOf", "owed", "why", "estimate").get(random.nextInt(4)), team());
        }
    }

    private void askOfDog() throws ReflectiveOperationException {
        if (oneIn(2)) {
            call("dogOf", dog(), "fewtslakp-".charAt(random.nextInt(10)));
        } else {
            call(oneIn(3) ? "mustStop" : "stateOf", dog());
        }
    }

    // ---- numbers

    /** From least to most, now and then one beside them. */
    private int number(int least, int most) {
        int beside = random.nextInt(60);
        if (beside < 2) {
            return beside == 0 ? least - 1 : most + 1;
        }
        return least + random.nextInt(most - least + 1);
    }

    private boolean oneIn(int many) {
        return random.nextInt(many) == 0;
    }

    private int team() {
        return oneIn(80) ? random.nextInt(9) - 1 : random.nextInt(reading.teams());
    }

    private int dog() {
        return oneIn(80) ? random.nextInt(43) - 1 : random.nextInt(reading.dogs());
    }

    private int leg() {
        return number(0, Math.max(0, reading.legs() - 1));
    }

    private int checkpoint() {
        return number(1, Math.max(1, reading.legs() - 1));
    }

    private int degrees() {
        return random.nextBoolean() ? number(-60, 20) : new int[] {-31, -30, -29, -6, -5, -4}[random.nextInt(6)];
    }

    // ---- a run

    private void go() throws ReflectiveOperationException {
        layTrail();
        fillKennels();
        for (int year = 0; year < YEARS && !isOver(); year++) {
            prepare();
            // A few steps more behind the end of the race are enough.
            for (int steps = 40 + random.nextInt(40); steps > 0 && !isOver(); steps -= reading.isNobodyOnWay() ? 9 : 1) {
                step();
                ask(1);
            }
            finishYear();
        }
    }

    private void layTrail() throws ReflectiveOperationException {
        int legs = 1 + random.nextInt(oneIn(4) ? 10 : 4);
        int longest = new int[] {120, 50, 15}[random.nextInt(3)];
        for (int leg = 0; leg < legs; leg++) {
            call("leg", number(5, longest), number(0, 9), number(-9, 9));
            if (oneIn(2)) {
                call("cold", leg, degrees());
            }
            if (oneIn(4)) {
                call("must", leg, true);
            }
        }
    }

    private void fillKennels() throws ReflectiveOperationException {
        int teams = 1 + random.nextInt(oneIn(4) ? 6 : 3);
        for (int team = 0; team < teams; team++) {
            call("team");
            int dogs = 4 + random.nextInt(Math.max(2, (oneIn(4) ? 33 : 12) / teams));
            int weakest = oneIn(3) ? 1 : 6;
            for (int i = 0; i < dogs; i++) {
                call("dog", team, number(weakest, 9), number(0, 9));
            }
        }
    }

    private void prepare() throws ReflectiveOperationException {
        for (int i = random.nextInt(4); i > 0; i--) {
            call("lease", dog(), team());
        }
        hitchMany();
        for (int i = random.nextInt(10); i > 0; i--) {
            call("send", team(), checkpoint(), number(1, oneIn(2) ? 60 : 300));
        }
        for (int i = random.nextInt(5); i > 0; i--) {
            call("storm", leg(), number(0, 50), number(50, 200), number(1, oneIn(3) ? 9 : 8));
        }
        for (int team = 0; team < reading.teams(); team++) {
            if (!oneIn(10)) {
                call("begin", team, number(0, oneIn(2) ? 200 : 60));
            }
        }
    }

    private void hitchMany() throws ReflectiveOperationException {
        List<Integer> order = new ArrayList<>();
        for (int dog = 0; dog < reading.dogs(); dog++) {
            order.add(dog);
        }
        Collections.shuffle(order, random);
        int most = 4 + random.nextInt(12);
        for (int dog : order) {
            int team = reading.dogOf(dog, 'k');
            if (reading.hitched(team) < most) {
                call("hitch", team, dog);
            }
        }
    }

    private void finishYear() throws ReflectiveOperationException {
        for (int team = 0; team < reading.teams(); team++) {
            if (!oneIn(20)) {
                call("scratch", team);
            }
        }
        breed();
        call("purse", number(0, 99999));
        ask(4);
        call("endYear");
        ask(8);
        breed();
    }

    private void breed() throws ReflectiveOperationException {
        for (int i = 0; i < 3; i++) {
            call("litter", dog(), dog());
            call("areKin", dog(), dog());
        }
    }

    private void step() throws ReflectiveOperationException {
        int team = team();
        switch (random.nextInt(10)) {
            case 0, 1, 2 -> call("run", team);
            case 3, 4 -> rest(team);
            case 5, 6 -> provide(team);
            case 7 -> plan(team);
            case 8 -> search(team);
            default -> other(team);
        }
        call("why", team);
    }

    private void rest(int team) throws ReflectiveOperationException {
        switch (random.nextInt(5)) {
            case 0, 1 -> call("camp", team, number(1, 30));
            case 2, 3 -> call("restLong", team);
            default -> call("restMust", team);
        }
    }

    private void provide(int team) throws ReflectiveOperationException {
        switch (random.nextInt(9)) {
            case 0 -> call("take", team, number(1, oneIn(6) ? 300 : 50));
            case 1, 2 -> call("feed", team, number(1, 3));
            case 3 -> call("melt", team);
            case 4 -> call("boots", team, !oneIn(4));
            case 5 -> call("give", team, team(), number(1, oneIn(6) ? 200 : 30));
            case 6 -> call("mend", team);
            case 7 -> call("exchange", team);
            default -> call(oneIn(4) ? "help" : "melt", team);
        }
    }

    private void plan(int team) throws ReflectiveOperationException {
        call("clear", team);
        for (int i = random.nextInt(oneIn(5) ? 14 : 5); i > 0; i--) {
            char kind = "rrrrccffwbblmdd?".charAt(random.nextInt(oneIn(20) ? 16 : 15));
            int most = kind == 'c' ? 30 : kind == 'f' ? 3 : kind == 'b' ? 1 : 40;
            call("order", team, kind, number(kind == 'b' ? 0 : 1, most));
        }
        tryPlan(team);
    }

    private void search(int team) throws ReflectiveOperationException {
        call("bestPlan", team, number(1, 3));
        tryPlan(team);
    }

    private void tryPlan(int team) throws ReflectiveOperationException {
        List<String> tries = List.of("isAdmitted", "forecast", "follow");
        call(tries.get(random.nextInt(3)), team);
        call("why", team);
        call(tries.get(random.nextInt(3)), team);
    }

    private void other(int team) throws ReflectiveOperationException {
        switch (random.nextInt(15)) {
            case 0 -> call("leg", number(5, 60), number(0, 9), number(-9, 9));
            case 1 -> call("cold", leg(), degrees());
            case 2 -> call("storm", leg(), number(0, 60), number(0, 200), number(1, 9));
            case 3 -> call("must", checkpoint(), random.nextBoolean());
            case 4 -> call("team");
            case 5 -> call("dog", team, number(1, 9), number(0, 9));
            case 6 -> call("lease", dog(), team());
            case 7 -> call("hitch", team, dog());
            case 8 -> call("send", team, checkpoint(), number(1, 300));
            case 9 -> call("begin", team, number(0, 200));
            case 10 -> call("drop", team, dog());
            case 11 -> call(oneIn(8) ? "scratch" : "raceOf", team);
            case 12 -> call("train", dog(), number(1, 100));
            case 13 -> call("endYear");
            default -> breed();
        }
    }
}
