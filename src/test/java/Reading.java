import java.util.ArrayList;
import java.util.Comparator;
import java.util.HashSet;
import java.util.List;
import java.util.NoSuchElementException;
import java.util.Set;
import java.util.TreeMap;
import java.util.TreeSet;

/**
 * The document read a second time: the same calls, written from its text alone and without regard to what they cost.
 * A plan is tried on a copy of the team, the best plan is found among all of them, standings are a sorted list.
 */
final class Reading {
    static final class Dog {
        int number;
        int kennel;
        int keeper;
        int strength;
        int lead;
        int age;
        int mother = -1;
        int father = -1;
        int feet = 100;
        int food = 100;
        int water = 100;
        int trust = 5;
        int trained;
        boolean hadLitter;
        char state = 'k';

        Dog copy() {
            Dog copy = new Dog();
            copy.number = number;
            copy.strength = strength;
            copy.lead = lead;
            copy.feet = feet;
            copy.food = food;
            copy.water = water;
            copy.trust = trust;
            copy.state = state;
            return copy;
        }

        boolean is(String states) {
            return states.indexOf(state) >= 0;
        }

        boolean mustStop() {
            return feet < 15 || food == 0 || water == 0;
        }

        int pull() {
            int vigour = strength * (food + water) / 40;
            return vigour * feet / 100;
        }

        Set<Integer> parents() {
            Set<Integer> parents = new HashSet<>();
            parents.add(mother);
            parents.add(father);
            parents.remove(-1);
            return parents;
        }
    }

    static final class Leg {
        int length;
        int surface;
        int climb;
        int cold = -10;
        boolean must;
    }

    record Storm(int leg, int from, int to, int strength) {
        boolean isOn(int where, int hour) {
            return where == leg && from <= hour && hour <= to;
        }
    }

    record Order(char kind, int number) {
    }

    static final class Team {
        final int number;
        char race = '-';
        int start;
        int minute;
        int checkpoint;
        int kilos;
        int sleep = 100;
        int breaks;
        int parts = 3;
        int boots = 6;
        boolean bootsAreOn;
        int exchanges = 2;
        int penalties;
        boolean longTaken;
        Set<Integer> restsTaken = new TreeSet<>();
        TreeMap<Integer, Integer> stock = new TreeMap<>();
        List<Dog> dogs = new ArrayList<>();
        List<Order> plan = new ArrayList<>();
        int sent;
        int earned;
        int finished;
        char why = '-';

        Team(int number) {
            this.number = number;
        }

        Team copy() {
            Team copy = new Team(number);
            copy.race = race;
            copy.start = start;
            copy.minute = minute;
            copy.checkpoint = checkpoint;
            copy.kilos = kilos;
            copy.sleep = sleep;
            copy.breaks = breaks;
            copy.boots = boots;
            copy.bootsAreOn = bootsAreOn;
            copy.longTaken = longTaken;
            copy.restsTaken.addAll(restsTaken);
            copy.stock.putAll(stock);
            for (Dog dog : dogs) {
                copy.dogs.add(dog.copy());
            }
            return copy;
        }

        boolean isOnWay() {
            return race == 'r';
        }

        void end(char how) {
            race = how;
            for (Dog dog : dogs) {
                if (dog.state == 'r') {
                    dog.state = 'd';
                }
            }
        }
    }

    private final List<Leg> legs = new ArrayList<>();
    private final List<Storm> storms = new ArrayList<>();
    private final List<Dog> dogs = new ArrayList<>();
    private final List<Team> teams = new ArrayList<>();
    private long purse;
    private int year;
    private int dogsThatBegan;

    // What the test asks, to choose its next calls.

    int teams() {
        return teams.size();
    }

    int dogs() {
        return dogs.size();
    }

    int legs() {
        return legs.size();
    }

    int hitched(int team) {
        return teams.get(team).dogs.size();
    }

    // ---- what is thrown

    private static <T> T one(List<T> all, int number) {
        if (number < 0 || number >= all.size()) {
            throw new IndexOutOfBoundsException();
        }
        return all.get(number);
    }

    private void between(int checkpoint) {
        if (checkpoint < 1 || checkpoint >= legs.size()) {
            throw new IndexOutOfBoundsException();
        }
    }

    private static void range(int number, int least, int most) {
        if (number < least || number > most) {
            throw new IllegalArgumentException();
        }
    }

    private static void can(boolean can) {
        if (!can) {
            throw new UnsupportedOperationException();
        }
    }

    private static void room(boolean isRoom) {
        if (!isRoom) {
            throw new IllegalStateException();
        }
    }

    private static void told(Team team, char why) {
        team.why = why;
        room(why != 'k' && why != 'p');
        can(why == '-');
    }

    boolean isNobodyOnWay() {
        return teams.stream().noneMatch(Team::isOnWay);
    }

    // ---- trail, dogs, teams

    int leg(int length, int surface, int climb) {
        range(length, 5, 120);
        range(surface, 0, 9);
        range(climb, -9, 9);
        can(isNobodyOnWay());
        room(legs.size() < 10);
        Leg leg = new Leg();
        leg.length = length;
        leg.surface = surface;
        leg.climb = climb;
        legs.add(leg);
        return legs.size() - 1;
    }

    int cold(int leg, int degrees) {
        Leg told = one(legs, leg);
        range(degrees, -60, 20);
        int before = told.cold;
        told.cold = degrees;
        return before;
    }

    int storm(int leg, int from, int to, int strength) {
        one(legs, leg);
        range(from, 0, 9999);
        range(to, from, 9999);
        range(strength, 1, 9);
        room(storms.size() < 12);
        storms.add(new Storm(leg, from, to, strength));
        return storms.size();
    }

    boolean must(int checkpoint, boolean is) {
        between(checkpoint);
        can(isNobodyOnWay());
        boolean before = legs.get(checkpoint).must;
        legs.get(checkpoint).must = is;
        return before;
    }

    int team() {
        room(teams.size() < 6);
        teams.add(new Team(teams.size()));
        return teams.size() - 1;
    }

    int dog(int team, int strength, int lead) {
        one(teams, team);
        range(strength, 1, 9);
        range(lead, 0, 9);
        room(dogs.size() < 40);
        return born(team, strength, lead, 2).number;
    }

    private Dog born(int kennel, int strength, int lead, int age) {
        Dog dog = new Dog();
        dog.number = dogs.size();
        dog.kennel = kennel;
        dog.keeper = kennel;
        dog.strength = strength;
        dog.lead = lead;
        dog.age = age;
        dogs.add(dog);
        return dog;
    }

    int lease(int dog, int team) {
        Dog leased = one(dogs, dog);
        one(teams, team);
        can(!leased.is("oxhr"));
        int before = leased.keeper;
        leased.keeper = team;
        return before;
    }

    int hitch(int team, int dog) {
        Team taker = one(teams, team);
        Dog taken = one(dogs, dog);
        can(taker.race == '-' && taken.keeper == team && taken.age >= 1 && !taken.is("oxhrd"));
        room(taker.dogs.size() < 14);
        taker.dogs.add(taken);
        taken.state = 'h';
        return taker.dogs.size();
    }

    int send(int team, int checkpoint, int kilos) {
        Team sender = one(teams, team);
        between(checkpoint);
        range(kilos, 1, 300);
        can(sender.race == '-');
        room(sender.sent + kilos <= 300);
        sender.sent += kilos;
        sender.stock.merge(checkpoint, kilos, Integer::sum);
        return sender.sent;
    }

    int begin(int team, int kilos) {
        Team beginner = one(teams, team);
        range(kilos, 0, 200);
        can(beginner.race == '-' && teams.stream().noneMatch(x -> x.longTaken));
        can(!legs.isEmpty() && beginner.dogs.size() >= 5);
        beginner.start = 2 * (int) teams.stream().filter(x -> x.race != '-').count();
        beginner.minute = beginner.start;
        beginner.kilos = kilos;
        beginner.race = 'r';
        for (Dog dog : beginner.dogs) {
            dog.state = 'r';
            dog.feet = 100;
            dog.food = 100;
            dog.water = 100;
            dog.trust = 5;
            dogsThatBegan++;
        }
        return beginner.minute;
    }

    // ---- what orders do: each answers the letter of why()

    private int storm(Team team) {
        int hour = team.minute / 60;
        return storms.stream().filter(x -> x.isOn(team.checkpoint, hour)).mapToInt(Storm::strength).max().orElse(0);
    }

    private int minutes(Team team) {
        Leg leg = legs.get(team.checkpoint);
        int storm = storm(team);
        long pulls = team.dogs.stream().mapToLong(Dog::pull).sum();
        long hardness = 5 + leg.surface + (leg.climb > 0 ? leg.climb : 0) + storm;
        long minutes = leg.length * hardness * (60 + team.kilos) / (pulls < 1 ? 1 : pulls);
        minutes += 10L * team.breaks;
        if (team.sleep < 20) {
            minutes += leg.length;
        }
        int lead = team.dogs.stream().limit(2).mapToInt(x -> x.lead).max().orElse(0);
        return Math.toIntExact(storm > lead ? minutes + 15 * (storm - lead) : minutes);
    }

    private char runs(Team team) {
        if (!team.isOnWay()) {
            return 'n';
        }
        Leg leg = legs.get(team.checkpoint);
        int storm = storm(team);
        if (team.dogs.size() < 5) {
            return 'd';
        }
        if (team.dogs.stream().anyMatch(Dog::mustStop)) {
            return 's';
        }
        if (leg.must && !team.restsTaken.contains(team.checkpoint)) {
            return 'm';
        }
        if (storm == 9) {
            return 'c';
        }
        int minutes = minutes(team);
        for (Dog dog : team.dogs) {
            wear(dog, leg, 60 + team.kilos, team.bootsAreOn);
        }
        team.minute += minutes;
        team.sleep = Math.max(0, team.sleep - minutes / 30);
        team.breaks += leg.climb < -5 ? 1 : 0;
        team.breaks += storm >= 5 ? 1 : 0;
        if (team.bootsAreOn) {
            team.boots--;
        }
        if (team.boots == 0) {
            team.bootsAreOn = false;
        }
        team.checkpoint++;
        comes(team);
        return '-';
    }

    private static void wear(Dog dog, Leg leg, int load, boolean boots) {
        dog.food = Math.max(0, dog.food - leg.length * load / 200 - 1);
        dog.water = Math.max(0, dog.water - leg.length / 2 - (leg.cold > -5 ? leg.length / 4 : 0));
        int worn = leg.surface * leg.length / 50;
        dog.feet = Math.max(0, dog.feet - (boots ? worn / 2 : worn) - (leg.cold < -30 ? 5 : 0));
        if (dog.food < 20 || dog.water < 20) {
            dog.trust = Math.max(0, dog.trust - 1);
        }
        if (dog.food == 0 && dog.water == 0) {
            dog.state = 'x';
        }
    }

    private void comes(Team team) {
        if (team.dogs.stream().anyMatch(x -> x.state == 'x')) {
            team.end('x');
        } else if (team.checkpoint == legs.size()) {
            team.end(team.longTaken ? 'f' : 'x');
            team.finished += team.longTaken ? 1 : 0;
        }
    }

    private static void rest(Team team, int minutes) {
        team.minute += minutes;
        for (int hour = 1; hour <= minutes / 60; hour++) {
            team.sleep = Math.min(100, team.sleep + 10);
            for (Dog dog : team.dogs) {
                dog.feet = Math.min(100, dog.feet + (dog.trust < 7 ? 2 : 4));
                dog.trust = Math.min(9, dog.trust + (hour % 4 == 0 ? 1 : 0));
            }
        }
    }

    private static char camps(Team team, int hours) {
        if (!team.isOnWay()) {
            return 'n';
        }
        rest(team, hours * 60);
        return '-';
    }

    private int longMinutes(Team team) {
        int last = teams.stream().filter(x -> x.race != '-').mapToInt(x -> x.start).max().orElse(0);
        return 1440 + last - team.start;
    }

    private char restsLong(Team team) {
        if (!team.isOnWay()) {
            return 'n';
        }
        if (team.checkpoint == 0 || team.longTaken) {
            return 'l';
        }
        rest(team, longMinutes(team));
        team.longTaken = true;
        return '-';
    }

    private boolean owesRest(Team team, int checkpoint) {
        return legs.get(checkpoint).must && !team.restsTaken.contains(checkpoint);
    }

    private char restsMust(Team team) {
        if (!team.isOnWay() || !owesRest(team, team.checkpoint)) {
            return 'n';
        }
        rest(team, 480);
        team.restsTaken.add(team.checkpoint);
        return '-';
    }

    private static char takes(Team team, int kilos) {
        if (!team.isOnWay()) {
            return 'n';
        }
        int here = team.stock.getOrDefault(team.checkpoint, 0);
        if (here < kilos) {
            return 'k';
        }
        team.stock.put(team.checkpoint, here - kilos);
        team.kilos += kilos;
        return '-';
    }

    private static char feeds(Team team, int kilos) {
        if (!team.isOnWay()) {
            return 'n';
        }
        if (team.kilos < kilos * team.dogs.size()) {
            return 'k';
        }
        team.minute += 30;
        for (Dog dog : team.dogs) {
            team.kilos -= kilos;
            dog.food = Math.min(100, dog.food + 30 * kilos);
            dog.water = Math.min(100, dog.water + 10 * kilos);
        }
        return '-';
    }

    private static char melts(Team team) {
        if (!team.isOnWay()) {
            return 'n';
        }
        team.minute += 45;
        for (Dog dog : team.dogs) {
            dog.water = Math.min(100, dog.water + 40);
        }
        return '-';
    }

    private static char putsBoots(Team team, boolean are) {
        if (!team.isOnWay()) {
            return 'n';
        }
        team.bootsAreOn = are && team.boots > 0;
        return '-';
    }

    // ---- on the way

    int run(int team) {
        Team runner = one(teams, team);
        int before = runner.minute;
        told(runner, runs(runner));
        return runner.minute - before;
    }

    int camp(int team, int hours) {
        Team camper = one(teams, team);
        range(hours, 1, 30);
        told(camper, camps(camper, hours));
        return camper.minute;
    }

    int restLong(int team) {
        Team rester = one(teams, team);
        int before = rester.minute;
        told(rester, restsLong(rester));
        return rester.minute - before;
    }

    int restMust(int team) {
        Team rester = one(teams, team);
        told(rester, restsMust(rester));
        return rester.minute;
    }

    int take(int team, int kilos) {
        Team taker = one(teams, team);
        range(kilos, 1, 300);
        told(taker, takes(taker, kilos));
        return taker.kilos;
    }

    int feed(int team, int kilos) {
        Team feeder = one(teams, team);
        range(kilos, 1, 3);
        told(feeder, feeds(feeder, kilos));
        return feeder.kilos;
    }

    int melt(int team) {
        Team melter = one(teams, team);
        told(melter, melts(melter));
        return melter.minute;
    }

    boolean boots(int team, boolean are) {
        Team booted = one(teams, team);
        told(booted, putsBoots(booted, are));
        return booted.bootsAreOn;
    }

    int give(int team, int other, int kilos) {
        Team giver = one(teams, team);
        Team taker = one(teams, other);
        range(kilos, 1, 200);
        can(team != other && giver.isOnWay() && taker.isOnWay() && giver.checkpoint == taker.checkpoint);
        room(giver.kilos >= kilos);
        giver.kilos -= kilos;
        taker.kilos += kilos;
        return taker.kilos;
    }

    int help(int team) {
        Team helped = one(teams, team);
        can(helped.isOnWay());
        helped.penalties += 120;
        if (helped.penalties == 240) {
            helped.end('x');
        }
        return helped.penalties;
    }

    int mend(int team) {
        Team mender = one(teams, team);
        told(mender, !mender.isOnWay() ? 'n' : mender.parts == 0 ? 'p' : '-');
        mender.parts--;
        mender.minute += 60;
        mender.breaks = mender.breaks < 3 ? 0 : mender.breaks - 3;
        return mender.breaks;
    }

    int exchange(int team) {
        Team changer = one(teams, team);
        told(changer, !changer.isOnWay() ? 'n' : changer.exchanges == 0 ? 'p' : '-');
        changer.exchanges--;
        changer.breaks = 0;
        return changer.exchanges;
    }

    int drop(int team, int dog) {
        Team dropper = one(teams, team);
        Dog dropped = one(dogs, dog);
        can(dropper.isOnWay() && dropper.dogs.contains(dropped));
        dropper.dogs.remove(dropped);
        dropped.state = 'd';
        return dropper.dogs.size();
    }

    boolean scratch(int team) {
        Team scratched = one(teams, team);
        if (!scratched.isOnWay()) {
            return false;
        }
        scratched.end('x');
        return true;
    }

    // ---- plans

    int order(int team, char kind, int number) {
        Team planner = one(teams, team);
        switch (kind) {
            case 'c' -> range(number, 1, 30);
            case 'f' -> range(number, 1, 3);
            case 'b' -> range(number, 0, 1);
            case 'd' -> range(number, 1, 300);
            default -> range("rwlm".indexOf(kind), 0, 3);
        }
        room(planner.plan.size() < 12);
        planner.plan.add(new Order(kind, number));
        return planner.plan.size();
    }

    int clear(int team) {
        Team planner = one(teams, team);
        int before = planner.plan.size();
        planner.plan = new ArrayList<>();
        return before;
    }

    private char does(Team team, Order order) {
        return switch (order.kind) {
            case 'r' -> runs(team);
            case 'c' -> camps(team, order.number);
            case 'f' -> feeds(team, order.number);
            case 'w' -> melts(team);
            case 'b' -> putsBoots(team, order.number == 1);
            case 'l' -> restsLong(team);
            case 'm' -> restsMust(team);
            default -> takes(team, order.number);
        };
    }

    private char does(Team team, List<Order> plan) {
        for (Order order : plan) {
            char why = does(team, order);
            if (why != '-') {
                return why;
            }
            if (team.dogs.stream().anyMatch(x -> x.state == 'x')) {
                return 'x';
            }
            if (team.dogs.stream().anyMatch(Dog::mustStop)) {
                return 's';
            }
        }
        return '-';
    }

    private static void admitted(char why) {
        if (why != '-') {
            throw new NoSuchElementException();
        }
    }

    boolean isAdmitted(int team) {
        Team planner = one(teams, team);
        planner.why = does(planner.copy(), planner.plan);
        return planner.why == '-';
    }

    int forecast(int team) {
        Team planner = one(teams, team);
        Team copy = planner.copy();
        planner.why = does(copy, planner.plan);
        admitted(planner.why);
        return copy.minute - planner.minute;
    }

    int follow(int team) {
        Team planner = one(teams, team);
        planner.why = does(planner.copy(), planner.plan);
        admitted(planner.why);
        does(planner, planner.plan);
        planner.plan = new ArrayList<>();
        return planner.minute;
    }

    /** All plans for so many legs, in the order in which the first of several that are as early is taken. */
    private static List<List<Order>> plansFor(int legs) {
        List<List<Order>> plans = new ArrayList<>();
        if (legs == 0) {
            plans.add(List.of());
            return plans;
        }
        List<List<Order>> later = plansFor(legs - 1);
        for (int hours = 0; hours <= 6; hours += 3) {
            for (int kilos = 0; kilos <= 1; kilos++) {
                for (List<Order> behind : later) {
                    List<Order> plan = new ArrayList<>();
                    if (hours > 0) {
                        plan.add(new Order('c', hours));
                    }
                    if (kilos > 0) {
                        plan.add(new Order('f', kilos));
                    }
                    plan.add(new Order('r', 0));
                    plan.addAll(behind);
                    plans.add(plan);
                }
            }
        }
        return plans;
    }

    int bestPlan(int team, int legs) {
        Team planner = one(teams, team);
        range(legs, 1, 3);
        List<Order> best = null;
        int earliest = 0;
        for (List<Order> plan : plansFor(legs)) {
            Team copy = planner.copy();
            if (does(copy, plan) == '-' && (best == null || copy.minute < earliest)) {
                best = plan;
                earliest = copy.minute;
            }
        }
        admitted(best == null ? 'n' : '-');
        planner.plan = new ArrayList<>(best);
        return best.size();
    }

    char why(int team) {
        return one(teams, team).why;
    }

    // ---- what is asked

    int dogOf(int dog, char what) {
        Dog asked = one(dogs, dog);
        return switch (what) {
            case 'f' -> asked.feet;
            case 'e' -> asked.food;
            case 'w' -> asked.water;
            case 't' -> asked.trust;
            case 's' -> asked.strength;
            case 'l' -> asked.lead;
            case 'a' -> asked.age;
            case 'k' -> asked.keeper;
            case 'p' -> asked.pull();
            default -> throw new IllegalArgumentException();
        };
    }

    char stateOf(int dog) {
        return one(dogs, dog).state;
    }

    boolean mustStop(int dog) {
        return one(dogs, dog).mustStop();
    }

    int teamOf(int team, char what) {
        Team asked = one(teams, team);
        return switch (what) {
            case 'm' -> asked.minute;
            case 'c' -> asked.checkpoint;
            case 'k' -> asked.kilos;
            case 's' -> asked.sleep;
            case 'b' -> asked.breaks;
            case 'p' -> asked.parts;
            case 'o' -> asked.boots;
            case 'd' -> asked.dogs.size();
            case 'e' -> asked.earned;
            case 'f' -> asked.finished;
            default -> throw new IllegalArgumentException();
        };
    }

    char raceOf(int team) {
        return one(teams, team).race;
    }

    private int owes(Team team) {
        int minutes = team.penalties;
        if (team.isOnWay()) {
            minutes += team.longTaken ? 0 : longMinutes(team);
            for (int checkpoint = team.checkpoint; checkpoint < legs.size(); checkpoint++) {
                minutes += owesRest(team, checkpoint) ? 480 : 0;
            }
        }
        return minutes;
    }

    int owed(int team) {
        return owes(one(teams, team));
    }

    private List<Team> standings() {
        List<Team> places = new ArrayList<>(teams);
        places.removeIf(x -> x.race == '-' || x.race == 'x');
        places.sort(Comparator.<Team>comparingInt(x -> x.race == 'f' ? 0 : 1)
            .thenComparingInt(x -> x.race == 'f' ? 0 : -x.checkpoint)
            .thenComparingInt(x -> x.minute + owes(x))
            .thenComparingInt(x -> x.number));
        return places;
    }

    int standing(int place) {
        return one(standings(), place).number;
    }

    int estimate(int team) {
        Team asked = one(teams, team);
        can(asked.isOnWay());
        return minutes(asked);
    }

    long purse(int amount) {
        range(amount, 0, 99999);
        purse += amount;
        return purse;
    }

    int endYear() {
        can(isNobodyOnWay());
        long whole = purse;
        long[] tenths = {5, 3, 2};
        List<Team> places = standings();
        for (int place = 0; place < 3 && place < places.size(); place++) {
            long share = whole * tenths[place] / 10;
            places.get(place).earned += (int) share;
            purse -= share;
        }
        for (Team old : List.copyOf(teams)) {
            Team fresh = new Team(old.number);
            fresh.earned = old.earned;
            fresh.finished = old.finished;
            fresh.why = old.why;
            teams.set(old.number, fresh);
        }
        for (Dog dog : dogs) {
            dog.keeper = dog.kennel;
            dog.hadLitter = false;
            if (dog.state != 'x') {
                dog.age++;
                dog.state = dog.age > 8 ? 'o' : 'k';
            }
        }
        storms.clear();
        dogsThatBegan = 0;
        year++;
        return year;
    }

    int litter(int mother, int father) {
        Dog dam = one(dogs, mother);
        Dog sire = one(dogs, father);
        if (mother == father) {
            throw new IllegalArgumentException();
        }
        can(dam.age >= 2 && sire.age >= 2 && !dam.is("oxr") && !sire.is("oxr") && !dam.hadLitter);
        room(dogs.size() < 40);
        int less = areKin(mother, father) ? 1 : 0;
        int strength = (dam.strength + sire.strength) / 2 + (dam.strength + sire.strength) % 2 - less;
        int lead = (dam.lead + sire.lead) / 2 + (dam.lead + sire.lead) % 2 - less;
        Dog pup = born(dam.kennel, Math.max(1, strength), Math.max(0, lead), 0);
        pup.mother = mother;
        pup.father = father;
        dam.hadLitter = true;
        return pup.number;
    }

    boolean areKin(int dog, int other) {
        Set<Integer> parents = one(dogs, dog).parents();
        Set<Integer> others = one(dogs, other).parents();
        boolean isParent = parents.contains(other) || others.contains(dog);
        parents.retainAll(others);
        return dog == other || isParent || !parents.isEmpty();
    }

    int train(int dog, int kilometres) {
        Dog trained = one(dogs, dog);
        range(kilometres, 1, 100);
        can(!trained.is("oxr"));
        for (int i = 0; i < kilometres; i++) {
            trained.trained++;
            if (trained.trained % 200 == 0 && trained.strength < 9) {
                trained.strength++;
            }
        }
        return trained.strength;
    }

    private List<Dog> racing() {
        List<Dog> racing = new ArrayList<>();
        for (Team team : teams) {
            if (team.isOnWay()) {
                racing.addAll(team.dogs);
            }
        }
        return racing;
    }

    private static void some(int number) {
        if (number == 0) {
            throw new ArithmeticException();
        }
    }

    float inShare() {
        some(dogsThatBegan);
        return (float) racing().size() / (float) dogsThatBegan;
    }

    double meanFeet() {
        List<Dog> racing = racing();
        some(racing.size());
        return (double) racing.stream().mapToInt(x -> x.feet).sum() / (double) racing.size();
    }

    /** No run of calls is known behind which it does not hold. */
    boolean isTrue() {
        return true;
    }
}
