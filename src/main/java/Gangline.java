import java.util.NoSuchElementException;

/**
 * Teams of dogs over a long trail, as the document tells it.
 *
 * Whatever a team does on its way is one method that takes a Party and answers the letter of why() that bars it, or
 * DONE. The calls of the face do it to the real party, plans and the search do it to a trial party made like it: so
 * a plan is never tried by other rules than those by which it is followed.
 */
public final class Gangline {
    private static final int MOST_LEGS = 10;
    private static final int MOST_STORMS = 12;
    private static final int MOST_DOGS = 40;
    private static final int MOST_TEAMS = 6;
    private static final int MOST_HITCHED = 14;
    private static final int LEAST_HITCHED = 5;
    private static final int MOST_ORDERS = 12;
    private static final int MOST_SENT = 300;
    private static final int MOST_SEARCHED = 3;
    private static final int CHOICES = 6;
    private static final int FULL = 100;
    private static final int MOST_TRUST = 9;
    private static final int MUST_MINUTES = 480;
    private static final int LONG_MINUTES = 1440;
    private static final int PENALTY = 120;
    private static final int NOBODY = -1;
    private static final int NEVER = 2147483647;
    private static final char DONE = '-';

    private final Leg[] legs = new Leg[MOST_LEGS];
    private int legCount;
    private final Storm[] storms = new Storm[MOST_STORMS];
    private int stormCount;
    private final Dog[] dogs = new Dog[MOST_DOGS];
    private int dogCount;
    private final Team[] teams = new Team[MOST_TEAMS];
    private int teamCount;
    private long purse;
    private int year;
    private int dogsBegun;
    // trials[0] is what a plan is tried on; the search keeps the state behind each of its legs in the next ones.
    private final Party[] trials = new Party[MOST_SEARCHED + 1];
    private final Plan choicePlan = new Plan();
    private final int[] chosen = new int[MOST_SEARCHED];
    private final int[] best = new int[MOST_SEARCHED];
    private int bestMinute;

    private static final class Leg {
        final int length;
        final int surface;
        final int climb;
        int degrees = -10;
        boolean must;

        Leg(int length, int surface, int climb) {
            this.length = length;
            this.surface = surface;
            this.climb = climb;
        }
    }

    private static final class Storm {
        final int leg;
        final int from;
        final int to;
        final int strength;

        Storm(int leg, int from, int to, int strength) {
            this.leg = leg;
            this.from = from;
            this.to = to;
            this.strength = strength;
        }
    }

    private static final class Dog {
        int kennel;
        int team;
        int strength;
        int lead;
        int age;
        int mother = NOBODY;
        int father = NOBODY;
        int feet = FULL;
        int food = FULL;
        int water = FULL;
        int trust = 5;
        int kilometres;
        boolean littered;
        char state = 'k';

        Dog(int kennel, int strength, int lead, int age) {
            this.kennel = kennel;
            this.team = kennel;
            this.strength = strength;
            this.lead = lead;
            this.age = age;
        }

        void freshen() {
            feet = FULL;
            food = FULL;
            water = FULL;
            trust = 5;
        }

        void becomeLike(Dog other) {
            strength = other.strength;
            lead = other.lead;
            feet = other.feet;
            food = other.food;
            water = other.water;
            trust = other.trust;
            state = other.state;
        }

        int pull() {
            return strength * (food + water) / 40 * feet / 100;
        }

        boolean isSpent() {
            return feet < 15 || food == 0 || water == 0;
        }

        boolean isOut() {
            return state == 'o' || state == 'x';
        }

        boolean isBusy() {
            return isOut() || state == 'r';
        }

        boolean isParent(int dog) {
            return dog != NOBODY && (mother == dog || father == dog);
        }

        boolean isInRanges() {
            return isPart(feet) && isPart(food) && isPart(water) && trust >= 0 && trust <= MOST_TRUST
                && strength >= 1 && strength <= 9 && lead >= 0 && lead <= 9 && age >= 0;
        }

        static boolean isPart(int number) {
            return number >= 0 && number <= FULL;
        }
    }

    private static final class Plan {
        final char[] kinds = new char[MOST_ORDERS];
        final int[] numbers = new int[MOST_ORDERS];
        int count;

        void put(char kind, int number) {
            if (count < MOST_ORDERS) {
                kinds[count] = kind;
                numbers[count] = number;
                count++;
            }
        }
    }

    /** How a team is in this year's race, and all that it has with it. */
    private static final class Party {
        char race;
        int beganAt;
        int minute;
        int checkpoint;
        int kilos;
        int sleep;
        int breaks;
        int parts;
        int bootsLeft;
        boolean bootsOn;
        int exchanges;
        int helps;
        boolean longTaken;
        boolean mustTaken;
        final int[] stock = new int[MOST_LEGS];
        final Dog[] pack = new Dog[MOST_HITCHED];
        int count;

        Party() {
            startOver();
        }

        void startOver() {
            race = '-';
            beganAt = 0;
            minute = 0;
            checkpoint = 0;
            kilos = 0;
            sleep = FULL;
            breaks = 0;
            parts = 3;
            bootsLeft = 6;
            bootsOn = false;
            exchanges = 2;
            helps = 0;
            longTaken = false;
            mustTaken = false;
            count = 0;
            for (int i = 0; i < MOST_LEGS; i++) {
                stock[i] = 0;
            }
            for (int i = 0; i < MOST_HITCHED; i++) {
                pack[i] = null;
            }
        }

        void becomeLike(Party other) {
            race = other.race;
            beganAt = other.beganAt;
            minute = other.minute;
            checkpoint = other.checkpoint;
            kilos = other.kilos;
            sleep = other.sleep;
            breaks = other.breaks;
            parts = other.parts;
            bootsLeft = other.bootsLeft;
            bootsOn = other.bootsOn;
            exchanges = other.exchanges;
            helps = other.helps;
            longTaken = other.longTaken;
            mustTaken = other.mustTaken;
            count = other.count;
            for (int i = 0; i < MOST_LEGS; i++) {
                stock[i] = other.stock[i];
            }
            for (int i = 0; i < count; i++) {
                pack[i].becomeLike(other.pack[i]);
            }
        }

        void enlist(Dog dog) {
            if (count < MOST_HITCHED) {
                pack[count] = dog;
                count++;
            }
        }

        int placeOf(Dog dog) {
            for (int i = 0; i < count; i++) {
                if (pack[i] == dog) {
                    return i;
                }
            }
            return NOBODY;
        }

        void release(int place) {
            if (place < 0 || place >= count) {
                return;
            }
            for (int i = place; i + 1 < count; i++) {
                pack[i] = pack[i + 1];
            }
            count--;
            pack[count] = null;
        }

        void endRace(char how) {
            race = how;
            for (int i = 0; i < count; i++) {
                if (pack[i].state == 'r') {
                    pack[i].state = 'd';
                }
            }
        }

        boolean hasSpent() {
            for (int i = 0; i < count; i++) {
                if (pack[i].isSpent()) {
                    return true;
                }
            }
            return false;
        }

        boolean hasDead() {
            for (int i = 0; i < count; i++) {
                if (pack[i].state == 'x') {
                    return true;
                }
            }
            return false;
        }

        int pulls() {
            int sum = 0;
            for (int i = 0; i < count; i++) {
                sum += pack[i].pull();
            }
            return sum;
        }

        int bestLead() {
            int lead = 0;
            for (int i = 0; i < count && i < 2; i++) {
                lead = Math.max(lead, pack[i].lead);
            }
            return lead;
        }

        int sent() {
            int sum = 0;
            for (int i = 0; i < MOST_LEGS; i++) {
                sum += stock[i];
            }
            return sum;
        }

        int load() {
            return 60 + kilos;
        }

        void restFor(int minutes) {
            minute += minutes;
            int hours = minutes / 60;
            for (int hour = 1; hour <= hours; hour++) {
                sleep = Math.min(FULL, sleep + 10);
                for (int i = 0; i < count; i++) {
                    Dog dog = pack[i];
                    dog.feet = Math.min(FULL, dog.feet + (dog.trust >= 7 ? 4 : 2));
                    if (hour % 4 == 0) {
                        dog.trust = Math.min(MOST_TRUST, dog.trust + 1);
                    }
                }
            }
        }

        void nourish(int food, int water) {
            for (int i = 0; i < count; i++) {
                pack[i].food = Math.min(FULL, pack[i].food + food);
                pack[i].water = Math.min(FULL, pack[i].water + water);
            }
        }

        void wearOut(int feet, int food, int water) {
            for (int i = 0; i < count; i++) {
                Dog dog = pack[i];
                dog.feet = Math.max(0, dog.feet - feet);
                dog.food = Math.max(0, dog.food - food);
                dog.water = Math.max(0, dog.water - water);
                if (dog.food < 20 || dog.water < 20) {
                    dog.trust = Math.max(0, dog.trust - 1);
                }
                if (dog.food == 0 && dog.water == 0) {
                    dog.state = 'x';
                }
            }
        }
    }

    private static final class Team {
        final Party party = new Party();
        final Plan plan = new Plan();
        int earned;
        int finished;
        char why = DONE;
    }

    public Gangline() {
        for (int i = 0; i <= MOST_SEARCHED; i++) {
            trials[i] = new Party();
            for (int k = 0; k < MOST_HITCHED; k++) {
                trials[i].pack[k] = new Dog(NOBODY, 1, 0, 0);
            }
        }
    }

    // ---- trail, dogs, teams

    public int leg(int length, int surface, int climb)
            throws IllegalArgumentException, UnsupportedOperationException, IllegalStateException {
        needRange(length, 5, 120);
        needRange(surface, 0, 9);
        needRange(climb, -9, 9);
        needNobodyOnWay();
        needRoom(legCount, MOST_LEGS);
        legs[legCount] = new Leg(length, surface, climb);
        legCount++;
        return legCount - 1;
    }

    public int cold(int leg, int degrees) throws IndexOutOfBoundsException, IllegalArgumentException {
        needLeg(leg);
        needRange(degrees, -60, 20);
        int before = legs[leg].degrees;
        legs[leg].degrees = degrees;
        return before;
    }

    public int storm(int leg, int from, int to, int strength)
            throws IndexOutOfBoundsException, IllegalArgumentException, IllegalStateException {
        needLeg(leg);
        needRange(from, 0, 9999);
        needRange(to, from, 9999);
        needRange(strength, 1, 9);
        needRoom(stormCount, MOST_STORMS);
        storms[stormCount] = new Storm(leg, from, to, strength);
        stormCount++;
        return stormCount;
    }

    public boolean must(int checkpoint, boolean is) throws IndexOutOfBoundsException, UnsupportedOperationException {
        needBetween(checkpoint);
        needNobodyOnWay();
        boolean before = legs[checkpoint].must;
        legs[checkpoint].must = is;
        return before;
    }

    public int team() throws IllegalStateException {
        needRoom(teamCount, MOST_TEAMS);
        teams[teamCount] = new Team();
        teamCount++;
        return teamCount - 1;
    }

    public int dog(int team, int strength, int lead)
            throws IndexOutOfBoundsException, IllegalArgumentException, IllegalStateException {
        needTeam(team);
        needRange(strength, 1, 9);
        needRange(lead, 0, 9);
        needRoom(dogCount, MOST_DOGS);
        return addDog(new Dog(team, strength, lead, 2));
    }

    public int lease(int dog, int team) throws IndexOutOfBoundsException, UnsupportedOperationException {
        needDog(dog);
        needTeam(team);
        Dog leased = dogs[dog];
        needThat(!leased.isBusy() && leased.state != 'h');
        int before = leased.team;
        leased.team = team;
        return before;
    }

    public int hitch(int team, int dog)
            throws IndexOutOfBoundsException, UnsupportedOperationException, IllegalStateException {
        needTeam(team);
        needDog(dog);
        Party party = teams[team].party;
        Dog taken = dogs[dog];
        // Only from the kennel: a dropped dog, though leased to a team that has not begun, returns in no race.
        needThat(party.race == '-' && taken.team == team && taken.age >= 1 && taken.state == 'k');
        needRoom(party.count, MOST_HITCHED);
        party.enlist(taken);
        taken.state = 'h';
        return party.count;
    }

    public int send(int team, int checkpoint, int kilos) throws IndexOutOfBoundsException, IllegalArgumentException,
            UnsupportedOperationException, IllegalStateException {
        needTeam(team);
        needBetween(checkpoint);
        needRange(kilos, 1, MOST_SENT);
        Party party = teams[team].party;
        needThat(party.race == '-');
        int sent = party.sent() + kilos;
        if (sent > MOST_SENT) {
            throw new IllegalStateException("more than can be sent");
        }
        party.stock[checkpoint] += kilos;
        return sent;
    }

    public int begin(int team, int kilos)
            throws IndexOutOfBoundsException, IllegalArgumentException, UnsupportedOperationException {
        needTeam(team);
        needRange(kilos, 0, 200);
        Party party = teams[team].party;
        needThat(party.race == '-' && !isLongTaken() && legCount > 0 && party.count >= LEAST_HITCHED);
        party.beganAt = 2 * teamsBegun();
        party.minute = party.beganAt;
        party.kilos = kilos;
        party.race = 'r';
        for (int i = 0; i < party.count; i++) {
            party.pack[i].state = 'r';
            party.pack[i].freshen();
        }
        dogsBegun += party.count;
        return party.minute;
    }

    // ---- on the way

    public int run(int team) throws IndexOutOfBoundsException, UnsupportedOperationException {
        needTeam(team);
        Party party = teams[team].party;
        int before = party.minute;
        settle(team, goLeg(party));
        return party.minute - before;
    }

    public int camp(int team, int hours)
            throws IndexOutOfBoundsException, IllegalArgumentException, UnsupportedOperationException {
        needTeam(team);
        needRange(hours, 1, 30);
        Party party = teams[team].party;
        settle(team, makeCamp(party, hours));
        return party.minute;
    }

    public int restLong(int team) throws IndexOutOfBoundsException, UnsupportedOperationException {
        needTeam(team);
        Party party = teams[team].party;
        int before = party.minute;
        settle(team, takeLong(party));
        return party.minute - before;
    }

    public int restMust(int team) throws IndexOutOfBoundsException, UnsupportedOperationException {
        needTeam(team);
        Party party = teams[team].party;
        settle(team, takeMust(party));
        return party.minute;
    }

    public int take(int team, int kilos) throws IndexOutOfBoundsException, IllegalArgumentException,
            UnsupportedOperationException, IllegalStateException {
        needTeam(team);
        needRange(kilos, 1, MOST_SENT);
        Party party = teams[team].party;
        settle(team, loadUp(party, kilos));
        return party.kilos;
    }

    public int feed(int team, int kilos) throws IndexOutOfBoundsException, IllegalArgumentException,
            UnsupportedOperationException, IllegalStateException {
        needTeam(team);
        needRange(kilos, 1, 3);
        Party party = teams[team].party;
        settle(team, giveFood(party, kilos));
        return party.kilos;
    }

    public int melt(int team) throws IndexOutOfBoundsException, UnsupportedOperationException {
        needTeam(team);
        Party party = teams[team].party;
        settle(team, giveWater(party));
        return party.minute;
    }

    public boolean boots(int team, boolean are) throws IndexOutOfBoundsException, UnsupportedOperationException {
        needTeam(team);
        Party party = teams[team].party;
        settle(team, putBoots(party, are));
        return party.bootsOn;
    }

    public int give(int team, int other, int kilos) throws IndexOutOfBoundsException, IllegalArgumentException,
            UnsupportedOperationException, IllegalStateException {
        needTeam(team);
        needTeam(other);
        needRange(kilos, 1, 200);
        Party giver = teams[team].party;
        Party taker = teams[other].party;
        needThat(team != other && isOnWay(giver) && isOnWay(taker) && giver.checkpoint == taker.checkpoint);
        if (giver.kilos < kilos) {
            throw new IllegalStateException("not so many kilos are carried");
        }
        giver.kilos -= kilos;
        taker.kilos += kilos;
        return taker.kilos;
    }

    public int help(int team) throws IndexOutOfBoundsException, UnsupportedOperationException {
        needTeam(team);
        Party party = teams[team].party;
        needThat(isOnWay(party));
        party.helps++;
        if (party.helps >= 2) {
            party.endRace('x');
        }
        return penaltiesOf(party);
    }

    public int mend(int team)
            throws IndexOutOfBoundsException, UnsupportedOperationException, IllegalStateException {
        needTeam(team);
        Party party = teams[team].party;
        settle(team, repair(party));
        return party.breaks;
    }

    public int exchange(int team)
            throws IndexOutOfBoundsException, UnsupportedOperationException, IllegalStateException {
        needTeam(team);
        Party party = teams[team].party;
        settle(team, changeSled(party));
        return party.exchanges;
    }

    public int drop(int team, int dog) throws IndexOutOfBoundsException, UnsupportedOperationException {
        needTeam(team);
        needDog(dog);
        Party party = teams[team].party;
        int place = party.placeOf(dogs[dog]);
        needThat(isOnWay(party) && place != NOBODY);
        party.release(place);
        dogs[dog].state = 'd';
        return party.count;
    }

    public boolean scratch(int team) throws IndexOutOfBoundsException {
        needTeam(team);
        Party party = teams[team].party;
        boolean was = party.race == 'r';
        if (was) {
            party.endRace('x');
        }
        return was;
    }

    // ---- plans

    public int order(int team, char kind, int number)
            throws IndexOutOfBoundsException, IllegalArgumentException, IllegalStateException {
        needTeam(team);
        if (!isOrder(kind, number)) {
            throw new IllegalArgumentException("no such order");
        }
        Plan plan = teams[team].plan;
        needRoom(plan.count, MOST_ORDERS);
        plan.put(kind, number);
        return plan.count;
    }

    public int clear(int team) throws IndexOutOfBoundsException {
        needTeam(team);
        Plan plan = teams[team].plan;
        int before = plan.count;
        plan.count = 0;
        return before;
    }

    public boolean isAdmitted(int team) throws IndexOutOfBoundsException {
        needTeam(team);
        char bar = tryPlan(teams[team]);
        teams[team].why = bar;
        return bar == DONE;
    }

    public int forecast(int team) throws IndexOutOfBoundsException, NoSuchElementException {
        needTeam(team);
        needAdmitted(team, tryPlan(teams[team]));
        return trials[0].minute - teams[team].party.minute;
    }

    public int follow(int team) throws IndexOutOfBoundsException, NoSuchElementException {
        needTeam(team);
        Team follower = teams[team];
        needAdmitted(team, tryPlan(follower));
        for (int i = 0; i < follower.plan.count; i++) {
            obey(follower.party, follower.plan.kinds[i], follower.plan.numbers[i]);
        }
        follower.plan.count = 0;
        return follower.party.minute;
    }

    public int bestPlan(int team, int legs)
            throws IndexOutOfBoundsException, IllegalArgumentException, NoSuchElementException {
        needTeam(team);
        needRange(legs, 1, MOST_SEARCHED);
        Team planner = teams[team];
        bestMinute = NEVER;
        trials[0].becomeLike(planner.party);
        search(this, 0, legs);
        if (bestMinute == NEVER) {
            throw new NoSuchElementException("no plan for these legs is admitted");
        }
        planner.plan.count = 0;
        for (int i = 0; i < legs && i < MOST_SEARCHED; i++) {
            putChoice(planner.plan, best[i]);
        }
        return planner.plan.count;
    }

    public char why(int team) throws IndexOutOfBoundsException {
        needTeam(team);
        return teams[team].why;
    }

    // ---- what is asked

    public int dogOf(int dog, char what) throws IndexOutOfBoundsException, IllegalArgumentException {
        needDog(dog);
        Dog asked = dogs[dog];
        switch (what) {
            case 'f':
                return asked.feet;
            case 'e':
                return asked.food;
            case 'w':
                return asked.water;
            case 't':
                return asked.trust;
            case 's':
                return asked.strength;
            case 'l':
                return asked.lead;
            case 'a':
                return asked.age;
            case 'k':
                return asked.team;
            case 'p':
                return asked.pull();
            default:
                throw new IllegalArgumentException("no such thing of a dog");
        }
    }

    public char stateOf(int dog) throws IndexOutOfBoundsException {
        needDog(dog);
        return dogs[dog].state;
    }

    public boolean mustStop(int dog) throws IndexOutOfBoundsException {
        needDog(dog);
        return dogs[dog].isSpent();
    }

    public int teamOf(int team, char what) throws IndexOutOfBoundsException, IllegalArgumentException {
        needTeam(team);
        Party party = teams[team].party;
        switch (what) {
            case 'm':
                return party.minute;
            case 'c':
                return party.checkpoint;
            case 'k':
                return party.kilos;
            case 's':
                return party.sleep;
            case 'b':
                return party.breaks;
            case 'p':
                return party.parts;
            case 'o':
                return party.bootsLeft;
            case 'd':
                return party.count;
            case 'e':
                return teams[team].earned;
            case 'f':
                return racesFinished(teams[team]);
            default:
                throw new IllegalArgumentException("no such thing of a team");
        }
    }

    public char raceOf(int team) throws IndexOutOfBoundsException {
        needTeam(team);
        return teams[team].party.race;
    }

    public int owed(int team) throws IndexOutOfBoundsException {
        needTeam(team);
        return owedOf(teams[team].party);
    }

    public int standing(int place) throws IndexOutOfBoundsException {
        int team = teamAt(place);
        if (team == NOBODY) {
            throw new IndexOutOfBoundsException("no team has this place");
        }
        return team;
    }

    public int estimate(int team) throws IndexOutOfBoundsException, UnsupportedOperationException {
        needTeam(team);
        Party party = teams[team].party;
        needThat(isOnWay(party));
        return minutesOfLeg(party);
    }

    public long purse(int amount) throws IllegalArgumentException {
        needRange(amount, 0, 99999);
        purse += amount;
        return purse;
    }

    public int endYear() throws UnsupportedOperationException {
        needNobodyOnWay();
        shareOut();
        for (int i = 0; i < teamCount; i++) {
            teams[i].finished = racesFinished(teams[i]);
            teams[i].party.startOver();
            teams[i].plan.count = 0;
        }
        for (int i = 0; i < dogCount; i++) {
            endYearOf(dogs[i]);
        }
        stormCount = 0;
        dogsBegun = 0;
        year++;
        return year;
    }

    public int litter(int mother, int father) throws IndexOutOfBoundsException, IllegalArgumentException,
            UnsupportedOperationException, IllegalStateException {
        needDog(mother);
        needDog(father);
        if (mother == father) {
            throw new IllegalArgumentException("both are the same dog");
        }
        needThat(canBreed(dogs[mother]) && canBreed(dogs[father]) && !dogs[mother].littered);
        needRoom(dogCount, MOST_DOGS);
        int less = kinship(mother, father) ? 1 : 0;
        int strength = Math.max(1, meanUp(dogs[mother].strength, dogs[father].strength) - less);
        int lead = Math.max(0, meanUp(dogs[mother].lead, dogs[father].lead) - less);
        Dog pup = new Dog(dogs[mother].kennel, strength, lead, 0);
        pup.mother = mother;
        pup.father = father;
        dogs[mother].littered = true;
        return addDog(pup);
    }

    public boolean areKin(int dog, int other) throws IndexOutOfBoundsException {
        needDog(dog);
        needDog(other);
        return kinship(dog, other);
    }

    public int train(int dog, int kilometres)
            throws IndexOutOfBoundsException, IllegalArgumentException, UnsupportedOperationException {
        needDog(dog);
        needRange(kilometres, 1, 100);
        Dog trained = dogs[dog];
        needThat(!trained.isBusy());
        int more = (trained.kilometres + kilometres) / 200 - trained.kilometres / 200;
        trained.kilometres += kilometres;
        trained.strength = Math.min(9, trained.strength + more);
        return trained.strength;
    }

    public float inShare() throws ArithmeticException {
        if (dogsBegun <= 0) {
            throw new ArithmeticException("no dog began");
        }
        return (float) dogsInRace() / (float) dogsBegun;
    }

    public double meanFeet() throws ArithmeticException {
        int number = dogsInRace();
        if (number <= 0) {
            throw new ArithmeticException("no dog is in the race");
        }
        int sum = 0;
        for (int i = 0; i < dogCount; i++) {
            if (dogs[i].state == 'r') {
                sum += dogs[i].feet;
            }
        }
        return (double) sum / (double) number;
    }

    public boolean isTrue() {
        for (int i = 0; i < dogCount; i++) {
            if (!dogs[i].isInRanges() || teamsWith(dogs[i]) > 1) {
                return false;
            }
        }
        for (int i = 0; i < teamCount; i++) {
            Team one = teams[i];
            if (one.party.race == 'f' && !one.party.longTaken) {
                return false;
            }
            // An empty plan does nothing: it cannot leave a dog worse than it was.
            if (one.plan.count > 0 && tryPlan(one) == DONE && trials[0].hasSpent()) {
                return false;
            }
        }
        return true;
    }

    // ---- what the calls need

    private static void needRange(int number, int least, int most) {
        if (number < least || number > most) {
            throw new IllegalArgumentException("a number is out of range");
        }
    }

    private static void needRoom(int count, int most) {
        if (count >= most) {
            throw new IllegalStateException("there are as many as can be");
        }
    }

    private static void needThat(boolean can) {
        if (!can) {
            throw new UnsupportedOperationException("this cannot be done now");
        }
    }

    private void needLeg(int leg) {
        if (leg < 0 || leg >= legCount) {
            throw new IndexOutOfBoundsException("no such leg");
        }
    }

    private void needBetween(int checkpoint) {
        if (checkpoint < 1 || checkpoint >= legCount) {
            throw new IndexOutOfBoundsException("no such checkpoint");
        }
    }

    private void needTeam(int team) {
        if (team < 0 || team >= teamCount) {
            throw new IndexOutOfBoundsException("no such team");
        }
    }

    private void needDog(int dog) {
        if (dog < 0 || dog >= dogCount) {
            throw new IndexOutOfBoundsException("no such dog");
        }
    }

    private void needNobodyOnWay() {
        for (int i = 0; i < teamCount; i++) {
            needThat(teams[i].party.race != 'r');
        }
    }

    private void needAdmitted(int team, char bar) {
        teams[team].why = bar;
        if (bar != DONE) {
            throw new NoSuchElementException("the plan is not admitted");
        }
    }

    /** Keeps for why() what came of a call, and throws what the document asks for a letter that bars. */
    private void settle(int team, char bar) {
        teams[team].why = bar;
        if (bar == 'k' || bar == 'p') {
            throw new IllegalStateException("there is not enough left");
        }
        needThat(bar == DONE);
    }

    // ---- what a party does

    private boolean isOnWay(Party party) {
        return party.race == 'r' && party.checkpoint >= 0 && party.checkpoint < legCount;
    }

    private boolean owesMust(Party party, int checkpoint) {
        return legs[checkpoint].must && !(checkpoint == party.checkpoint && party.mustTaken);
    }

    private int strongest(int leg, int minute) {
        int hour = minute / 60;
        int strength = 0;
        for (int i = 0; i < stormCount; i++) {
            Storm storm = storms[i];
            if (storm.leg == leg && storm.from <= hour && hour <= storm.to) {
                strength = Math.max(strength, storm.strength);
            }
        }
        return strength;
    }

    private int minutesOfLeg(Party party) {
        Leg leg = legs[party.checkpoint];
        int storm = strongest(party.checkpoint, party.minute);
        int hardness = 5 + leg.surface + Math.max(0, leg.climb) + storm;
        int minutes = leg.length * hardness * party.load() / Math.max(1, party.pulls());
        minutes += 10 * party.breaks;
        if (party.sleep < 20) {
            minutes += leg.length;
        }
        return minutes + 15 * Math.max(0, storm - party.bestLead());
    }

    private char barToGo(Party party) {
        if (!isOnWay(party)) {
            return 'n';
        }
        if (party.count < LEAST_HITCHED) {
            return 'd';
        }
        if (party.hasSpent()) {
            return 's';
        }
        if (owesMust(party, party.checkpoint)) {
            return 'm';
        }
        return strongest(party.checkpoint, party.minute) >= 9 ? 'c' : DONE;
    }

    private char goLeg(Party party) {
        char bar = barToGo(party);
        if (bar != DONE) {
            return bar;
        }
        Leg leg = legs[party.checkpoint];
        int storm = strongest(party.checkpoint, party.minute);
        int minutes = minutesOfLeg(party);
        party.wearOut(feetWorn(leg, party.bootsOn), leg.length * party.load() / 200 + 1, waterLost(leg));
        party.minute += minutes;
        party.sleep = Math.max(0, party.sleep - minutes / 30);
        party.breaks += (leg.climb < -5 ? 1 : 0) + (storm >= 5 ? 1 : 0);
        if (party.bootsOn) {
            party.bootsLeft--;
            party.bootsOn = party.bootsLeft > 0;
        }
        arrive(party);
        return DONE;
    }

    private static int feetWorn(Leg leg, boolean bootsOn) {
        int worn = leg.surface * leg.length / 50;
        if (bootsOn) {
            worn /= 2;
        }
        return leg.degrees < -30 ? worn + 5 : worn;
    }

    private static int waterLost(Leg leg) {
        int lost = leg.length / 2;
        return leg.degrees > -5 ? lost + leg.length / 4 : lost;
    }

    private void arrive(Party party) {
        party.checkpoint++;
        party.mustTaken = false;
        if (party.hasDead()) {
            party.endRace('x');
        } else if (party.checkpoint >= legCount) {
            party.endRace(party.longTaken ? 'f' : 'x');
        }
    }

    private char makeCamp(Party party, int hours) {
        if (!isOnWay(party)) {
            return 'n';
        }
        party.restFor(60 * hours);
        return DONE;
    }

    private char takeLong(Party party) {
        if (!isOnWay(party)) {
            return 'n';
        }
        if (party.checkpoint == 0 || party.longTaken) {
            return 'l';
        }
        party.restFor(longMinutes(party));
        party.longTaken = true;
        return DONE;
    }

    private char takeMust(Party party) {
        if (!isOnWay(party) || !owesMust(party, party.checkpoint)) {
            return 'n';
        }
        party.restFor(MUST_MINUTES);
        party.mustTaken = true;
        return DONE;
    }

    private char loadUp(Party party, int kilos) {
        if (!isOnWay(party)) {
            return 'n';
        }
        if (party.stock[party.checkpoint] < kilos) {
            return 'k';
        }
        party.stock[party.checkpoint] -= kilos;
        party.kilos += kilos;
        return DONE;
    }

    private char giveFood(Party party, int kilos) {
        if (!isOnWay(party)) {
            return 'n';
        }
        if (party.kilos < kilos * party.count) {
            return 'k';
        }
        party.kilos -= kilos * party.count;
        party.minute += 30;
        party.nourish(30 * kilos, 10 * kilos);
        return DONE;
    }

    private char giveWater(Party party) {
        if (!isOnWay(party)) {
            return 'n';
        }
        party.minute += 45;
        party.nourish(0, 40);
        return DONE;
    }

    private char putBoots(Party party, boolean are) {
        if (!isOnWay(party)) {
            return 'n';
        }
        party.bootsOn = are && party.bootsLeft > 0;
        return DONE;
    }

    private char repair(Party party) {
        if (!isOnWay(party)) {
            return 'n';
        }
        if (party.parts <= 0) {
            return 'p';
        }
        party.parts--;
        party.minute += 60;
        party.breaks = Math.max(0, party.breaks - 3);
        return DONE;
    }

    private char changeSled(Party party) {
        if (!isOnWay(party)) {
            return 'n';
        }
        if (party.exchanges <= 0) {
            return 'p';
        }
        party.exchanges--;
        party.breaks = 0;
        return DONE;
    }

    // ---- plans and their search

    private static boolean isOrder(char kind, int number) {
        switch (kind) {
            case 'r':
            case 'w':
            case 'l':
            case 'm':
                return true;
            case 'c':
                return number >= 1 && number <= 30;
            case 'f':
                return number >= 1 && number <= 3;
            case 'b':
                return number == 0 || number == 1;
            case 'd':
                return number >= 1 && number <= MOST_SENT;
            default:
                return false;
        }
    }

    private char obey(Party party, char kind, int number) {
        switch (kind) {
            case 'r':
                return goLeg(party);
            case 'c':
                return makeCamp(party, number);
            case 'f':
                return giveFood(party, number);
            case 'w':
                return giveWater(party);
            case 'b':
                return putBoots(party, number == 1);
            case 'l':
                return takeLong(party);
            case 'm':
                return takeMust(party);
            default:
                return loadUp(party, number);
        }
    }

    private char tryOrders(Party party, Plan plan) {
        for (int i = 0; i < plan.count; i++) {
            char bar = obey(party, plan.kinds[i], plan.numbers[i]);
            if (bar != DONE) {
                return bar;
            }
            // A dog that died also had to stop: with 's' first, 'x' would never be told.
            if (party.hasDead()) {
                return 'x';
            }
            if (party.hasSpent()) {
                return 's';
            }
        }
        return DONE;
    }

    private char tryPlan(Team planner) {
        trials[0].becomeLike(planner.party);
        return tryOrders(trials[0], planner.plan);
    }

    /** The choices of a leg are numbered in the order in which the first of equal plans is taken. */
    private static void putChoice(Plan plan, int choice) {
        int hours = choice / 2 * 3;
        if (hours > 0) {
            plan.put('c', hours);
        }
        if (choice % 2 == 1) {
            plan.put('f', 1);
        }
        plan.put('r', 0);
    }

    /** Tries the choices of the leg at this depth, each behind what was chosen for the legs ahead of it. */
    private static void search(Gangline world, int depth, int wanted) {
        if (depth >= wanted || depth >= MOST_SEARCHED) {
            return;
        }
        Party next = world.trials[depth + 1];
        for (int choice = 0; choice < CHOICES; choice++) {
            next.becomeLike(world.trials[depth]);
            world.chosen[depth] = choice;
            world.choicePlan.count = 0;
            putChoice(world.choicePlan, choice);
            // No leg takes back a minute, so what is as late as the best one already cannot become earlier.
            if (world.tryOrders(next, world.choicePlan) != DONE || next.minute >= world.bestMinute) {
                continue;
            }
            if (depth + 1 < wanted) {
                search(world, depth + 1, wanted);
            } else {
                world.keepBest(next.minute, wanted);
            }
        }
    }

    private void keepBest(int minute, int wanted) {
        bestMinute = minute;
        for (int i = 0; i < wanted && i < MOST_SEARCHED; i++) {
            best[i] = chosen[i];
        }
    }

    // ---- standings, years, kennels

    private int teamsBegun() {
        int number = 0;
        for (int i = 0; i < teamCount; i++) {
            if (teams[i].party.race != '-') {
                number++;
            }
        }
        return number;
    }

    private boolean isLongTaken() {
        for (int i = 0; i < teamCount; i++) {
            if (teams[i].party.longTaken) {
                return true;
            }
        }
        return false;
    }

    private int longMinutes(Party party) {
        int last = 2 * (teamsBegun() - 1);
        return LONG_MINUTES + last - party.beganAt;
    }

    private static int penaltiesOf(Party party) {
        return PENALTY * party.helps;
    }

    private int owedOf(Party party) {
        int minutes = penaltiesOf(party);
        if (!isOnWay(party)) {
            return minutes;
        }
        if (!party.longTaken) {
            minutes += longMinutes(party);
        }
        for (int i = party.checkpoint; i < legCount; i++) {
            if (owesMust(party, i)) {
                minutes += MUST_MINUTES;
            }
        }
        return minutes;
    }

    private static boolean hasPlace(Party party) {
        return party.race == 'f' || party.race == 'r';
    }

    private boolean isAhead(int team, int other) {
        Party one = teams[team].party;
        Party two = teams[other].party;
        if (one.race != two.race) {
            return one.race == 'f';
        }
        if (one.checkpoint != two.checkpoint && one.race == 'r') {
            return one.checkpoint > two.checkpoint;
        }
        int difference = one.minute + owedOf(one) - two.minute - owedOf(two);
        return difference < 0 || difference == 0 && team < other;
    }

    private int rankOf(int team) {
        int place = 0;
        for (int i = 0; i < teamCount; i++) {
            if (i != team && hasPlace(teams[i].party) && isAhead(i, team)) {
                place++;
            }
        }
        return place;
    }

    private int teamAt(int place) {
        for (int i = 0; i < teamCount; i++) {
            if (hasPlace(teams[i].party) && rankOf(i) == place) {
                return i;
            }
        }
        return NOBODY;
    }

    private static int racesFinished(Team team) {
        return team.finished + (team.party.race == 'f' ? 1 : 0);
    }

    private void shareOut() {
        long whole = purse;
        payPlace(0, whole / 2);
        payPlace(1, whole * 3 / 10);
        payPlace(2, whole * 2 / 10);
    }

    private void payPlace(int place, long share) {
        int team = teamAt(place);
        if (team == NOBODY || teams[team].party.race != 'f') {
            return;
        }
        teams[team].earned += (int) share;
        purse -= share;
    }

    private static void endYearOf(Dog dog) {
        dog.team = dog.kennel;
        dog.littered = false;
        if (dog.state == 'x') {
            return;
        }
        dog.age++;
        dog.state = dog.age > 8 ? 'o' : 'k';
    }

    private int addDog(Dog dog) {
        int number = dogCount;
        if (number < MOST_DOGS) {
            dogs[number] = dog;
            dogCount++;
        }
        return number;
    }

    private static boolean canBreed(Dog dog) {
        return dog.age >= 2 && !dog.isBusy();
    }

    private static int meanUp(int one, int two) {
        return (one + two + 1) / 2;
    }

    private boolean kinship(int dog, int other) {
        Dog one = dogs[dog];
        Dog two = dogs[other];
        return dog == other || one.isParent(other) || two.isParent(dog)
            || two.isParent(one.mother) || two.isParent(one.father);
    }

    private int dogsInRace() {
        int number = 0;
        for (int i = 0; i < dogCount; i++) {
            if (dogs[i].state == 'r') {
                number++;
            }
        }
        return number;
    }

    private int teamsWith(Dog dog) {
        int number = 0;
        for (int i = 0; i < teamCount; i++) {
            if (teams[i].party.placeOf(dog) != NOBODY) {
                number++;
            }
        }
        return number;
    }
}
