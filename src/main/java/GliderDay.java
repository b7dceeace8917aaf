import java.util.ArrayList;

/** A day at a glider club: who flies when, in what, and who owes what for it. */
public final class GliderDay {
    private static final int STUDENT = 0;
    private static final int SOLO = 1;
    private static final int PILOT = 2;
    private static final int TEACHER = 3;

    private static final int ON_GROUND = 0;
    private static final int FLIES = 1;
    private static final int WAITS = 2;

    private static final int LISTED = 0;
    private static final int BEGUN = 1;
    private static final int LANDED = 2;
    private static final int DROPPED = 3;

    private static final int NONE = -1;
    private static final int MOST_MEMBERS = 16;
    private static final int MOST_GLIDERS = 8;
    private static final int MOST_LISTED = 30;
    private static final int MOST_FLIGHTS = 100;
    private static final int MOST_WIND = 40;
    private static final int LAST_MINUTE = 1500;
    private static final int LONGEST_TICK = 300;
    private static final int HIGHEST_PAYMENT = 100000;

    private static final int MEMBER_FACTS = 6;
    private static final int GLIDER_FACTS = 5;
    private static final int FLIGHT_FACTS = 8;
    private static final int COUNTS = 8;

    private static final int CABLES = 2;
    private static final int MOST_TUGS = 2;
    private static final int CABLE_MINUTES = 10;
    private static final int TUG_MINUTES = 4;
    private static final int BUSY_AFTER_LANDING = 2;
    private static final int BUSY_AFTER_WINCH = 2;
    private static final int BUSY_AFTER_TUG = 3;
    private static final int LEAST_DAYLIGHT = 10;

    private static final int WINCH_PRICE = 8;
    private static final int HEIGHT_PER_PRICE = 20;
    private static final int MOST_PAID_MINUTES = 180;

    private static final int LESSONS_TO_SOLO = 3;
    private static final int SOLOS_TO_PILOT = 5;

    private final ArrayList<Member> members;
    private final ArrayList<Glider> gliders;
    private final ArrayList<Flight> flights;
    private final ArrayList<Flight> listed;
    private final ArrayList<Glider> waiting;
    // When each tug comes back; 0 for one that is not taken.
    private final int[] tugsDue;
    private int tugs;
    private int cablesTaken;
    private int cablesDue;
    private int time;
    private int wind;
    private int sunset;
    private int busyUntil;

    /** Creates a day without members and gliders. */
    public GliderDay() {
        members = new ArrayList<Member>();
        gliders = new ArrayList<Glider>();
        flights = new ArrayList<Flight>();
        listed = new ArrayList<Flight>();
        waiting = new ArrayList<Glider>();
        tugsDue = new int[MOST_TUGS];
        tugs = 1;
        cablesTaken = 0;
        cablesDue = 0;
        time = 0;
        wind = 10;
        sunset = 600;
        busyUntil = 0;
    }

    // ---- members, gliders and weather

    /** Adds a member and returns its number. */
    public int addMember(int level) throws IllegalArgumentException, IllegalStateException {
        if (!isWithin(level, STUDENT, TEACHER)) {
            throw new IllegalArgumentException("no such level");
        }
        if (members.size() >= MOST_MEMBERS) {
            throw new IllegalStateException("too many members");
        }
        int number = members.size();
        members.add(new Member(number, level));
        return number;
    }

    /** Adds a glider and returns its number. */
    public int addGlider(int seats, int rate, int limit) throws IllegalArgumentException, IllegalStateException {
        if (!isWithin(seats, 1, 2) || !isWithin(rate, 1, 50) || !isWithin(limit, 5, MOST_WIND)) {
            throw new IllegalArgumentException("no such glider can be");
        }
        if (gliders.size() >= MOST_GLIDERS) {
            throw new IllegalStateException("too many gliders");
        }
        int number = gliders.size();
        gliders.add(new Glider(number, seats, rate, limit));
        return number;
    }

    /** Sets the wind and returns the wind before. */
    public int setWind(int wind) throws IllegalArgumentException {
        if (!isWithin(wind, 0, MOST_WIND)) {
            throw new IllegalArgumentException("no such wind");
        }
        int before = this.wind;
        this.wind = wind;
        return before;
    }

    /** Sets the time of sunset and returns the time before. */
    public int setSunset(int time) throws IllegalArgumentException {
        if (!isWithin(time, 0, LAST_MINUTE)) {
            throw new IllegalArgumentException("no such time");
        }
        int before = sunset;
        sunset = time;
        return before;
    }

    /** Sets the number of tugs and returns how many of them are free then. */
    public int setTugs(int tugs) throws IllegalArgumentException, IllegalStateException {
        if (!isWithin(tugs, 0, MOST_TUGS)) {
            throw new IllegalArgumentException("no such number of tugs");
        }
        if (tugsTaken() > tugs) {
            throw new IllegalStateException("more tugs are taken");
        }
        this.tugs = tugs;
        return freeTugs();
    }

    /** Bars a glider, or lets it fly again; returns whether it was barred before. */
    public boolean bar(int glider, boolean isBarred) throws IndexOutOfBoundsException, IllegalStateException {
        Glider plane = gliderAt(glider);
        if (plane.state != ON_GROUND) {
            throw new IllegalStateException("the glider flies");
        }
        boolean before = plane.isBarred;
        plane.isBarred = isBarred;
        return before;
    }

    /** Lets a member rise to the level that it has earned, and returns its level then. */
    public int promote(int member) throws IndexOutOfBoundsException, IllegalStateException {
        Member person = memberAt(member);
        if (person.isFlying || !hasEarnedNextLevel(person)) {
            throw new IllegalStateException("no promotion now");
        }
        person.level++;
        return person.level;
    }

    /** Tells one fact about a member. */
    public int member(int member, int what) throws IndexOutOfBoundsException {
        Member person = memberAt(member);
        if (!isWithin(what, 0, MEMBER_FACTS - 1)) {
            throw new IndexOutOfBoundsException("no such fact");
        }
        return memberFact(person, what);
    }

    /** Tells one fact about a glider. */
    public int glider(int glider, int what) throws IndexOutOfBoundsException {
        Glider plane = gliderAt(glider);
        if (!isWithin(what, 0, GLIDER_FACTS - 1)) {
            throw new IndexOutOfBoundsException("no such fact");
        }
        return gliderFact(plane, what);
    }

    // ---- the list

    /** Asks for a flight and returns its number. */
    public int ask(int member, int second, int glider, int height, int minutes)
            throws IndexOutOfBoundsException, IllegalArgumentException, IllegalStateException {
        Member flier = memberAt(member);
        Member companion = second == NONE ? null : memberAt(second);
        Glider plane = gliderAt(glider);
        if (member == second || !isHeight(height) || !isWithin(minutes, 2, 300)) {
            throw new IllegalArgumentException("no such flight can be");
        }
        if (listed.size() >= MOST_LISTED || flights.size() >= MOST_FLIGHTS) {
            throw new IllegalStateException("too many flights");
        }
        Flight asked = new Flight(flights.size(), flier, companion, plane);
        asked.height = height;
        asked.minutes = minutes;
        asked.askedAt = time;
        flights.add(asked);
        listed.add(asked);
        return asked.number;
    }

    /** Takes a flight off the list and returns its place on it. */
    public int drop(int flight) throws IndexOutOfBoundsException, IllegalStateException {
        Flight dropped = listedFlightAt(flight);
        int place = placeOf(dropped);
        takeOffList(place);
        dropped.state = DROPPED;
        return place;
    }

    /** Tells the flight at a place on the list, or -1. */
    public int list(int place) throws IndexOutOfBoundsException {
        if (place < 0) {
            throw new IndexOutOfBoundsException("no such place");
        }
        if (place >= listed.size()) {
            return NONE;
        }
        return listed.get(place).number;
    }

    /** Tells the first reason why a flight cannot begin now, or 0. */
    public int reason(int flight) throws IndexOutOfBoundsException, IllegalStateException {
        return reasonAgainst(listedFlightAt(flight));
    }

    /** Calls a glider back and returns how many minutes it has flown so far. */
    public int call(int glider) throws IndexOutOfBoundsException, IllegalStateException {
        Glider plane = gliderAt(glider);
        Flight made = plane.flight;
        if (made == null) {
            throw new IllegalStateException("the glider is on the ground");
        }
        plane.isCalled = true;
        return time - made.begin;
    }

    /** Lets minutes pass and returns how many flights began in them. */
    public int tick(int minutes) throws IllegalArgumentException {
        if (!isWithin(minutes, 1, LONGEST_TICK) || time + minutes > LAST_MINUTE) {
            throw new IllegalArgumentException("no such minutes");
        }
        int begun = 0;
        for (int i = 0; i < minutes; i++) {
            if (passMinute()) {
                begun++;
            }
        }
        return begun;
    }

    /** Tells the time. */
    public int now() {
        return time;
    }

    // ---- what is told

    /** Tells one fact about a flight. */
    public int flight(int flight, int what) throws IndexOutOfBoundsException {
        Flight told = flightAt(flight);
        if (!isWithin(what, 0, FLIGHT_FACTS - 1)) {
            throw new IndexOutOfBoundsException("no such fact");
        }
        return flightFact(told, what);
    }

    /** Tells how many there are of something. */
    public int count(int what) throws IndexOutOfBoundsException {
        if (!isWithin(what, 0, COUNTS - 1)) {
            throw new IndexOutOfBoundsException("no such count");
        }
        return countOf(what);
    }

    /** Tells whether the field is busy. */
    public boolean isBusy() {
        return time < busyUntil;
    }

    /** Tells what a member owes. */
    public int bill(int member) throws IndexOutOfBoundsException {
        return memberAt(member).bill;
    }

    /** Lets a member pay and returns its bill then. */
    public int pay(int member, int amount) throws IndexOutOfBoundsException, IllegalArgumentException {
        Member payer = memberAt(member);
        if (!isWithin(amount, 1, HIGHEST_PAYMENT)) {
            throw new IllegalArgumentException("no such amount");
        }
        payer.bill -= amount;
        return payer.bill;
    }

    /** Tells what all flights that landed cost. */
    public int income() {
        int sum = 0;
        for (int i = 0; i < flights.size(); i++) {
            sum += flights.get(i).cost;
        }
        return sum;
    }

    /** Tells the longest flight that landed, or -1. */
    public int longest() {
        int best = NONE;
        int bestMinutes = 0;
        for (int i = 0; i < flights.size(); i++) {
            Flight each = flights.get(i);
            if (each.state == LANDED && (best == NONE || each.landing - each.begin > bestMinutes)) {
                best = each.number;
                bestMinutes = each.landing - each.begin;
            }
        }
        return best;
    }

    /** Tells how many minutes the flights that have begun stood on the list, in the mean. */
    public double waited() {
        int begun = 0;
        int sum = 0;
        for (int i = 0; i < flights.size(); i++) {
            Flight each = flights.get(i);
            if (each.begin != NONE) {
                begun++;
                sum += each.begin - each.askedAt;
            }
        }
        return begun == 0 ? 0.0 : (double) sum / (double) begun;
    }

    /** Computes a checksum over all that is told. */
    public long digest() {
        long d = mixed(317L, time);
        for (int what = 0; what < COUNTS; what++) {
            d = mixed(d, countOf(what));
        }
        d = mixedMembers(d);
        d = mixedGliders(d);
        d = mixedFlights(d);
        for (int place = 0; place < listed.size(); place++) {
            d = mixed(d, listed.get(place).number);
        }
        return d;
    }

    private static long mixed(long d, int x) {
        return d * 31L + x;
    }

    private long mixedMembers(long start) {
        long d = start;
        for (int i = 0; i < members.size(); i++) {
            Member each = members.get(i);
            for (int what = 0; what < MEMBER_FACTS; what++) {
                d = mixed(d, memberFact(each, what));
            }
            d = mixed(d, each.bill);
        }
        return d;
    }

    private long mixedGliders(long start) {
        long d = start;
        for (int i = 0; i < gliders.size(); i++) {
            for (int what = 0; what < GLIDER_FACTS; what++) {
                d = mixed(d, gliderFact(gliders.get(i), what));
            }
        }
        return d;
    }

    private long mixedFlights(long start) {
        long d = start;
        for (int i = 0; i < flights.size(); i++) {
            for (int what = 0; what < FLIGHT_FACTS; what++) {
                d = mixed(d, flightFact(flights.get(i), what));
            }
        }
        return d;
    }

    // ---- what is looked up

    private static boolean isWithin(int x, int least, int most) {
        return x >= least && x <= most;
    }

    private static boolean isHeight(int height) {
        return height == 0 || isWithin(height, 200, 1500);
    }

    private Member memberAt(int number) {
        if (number < 0 || number >= members.size()) {
            throw new IndexOutOfBoundsException("no such member");
        }
        return members.get(number);
    }

    private Glider gliderAt(int number) {
        if (number < 0 || number >= gliders.size()) {
            throw new IndexOutOfBoundsException("no such glider");
        }
        return gliders.get(number);
    }

    private Flight flightAt(int number) {
        if (number < 0 || number >= flights.size()) {
            throw new IndexOutOfBoundsException("no such flight");
        }
        return flights.get(number);
    }

    private Flight listedFlightAt(int number) {
        Flight found = flightAt(number);
        if (found.state != LISTED) {
            throw new IllegalStateException("the flight is not on the list");
        }
        return found;
    }

    private int placeOf(Flight sought) {
        for (int place = 0; place < listed.size(); place++) {
            if (listed.get(place) == sought) {
                return place;
            }
        }
        return NONE;
    }

    private void takeOffList(int place) {
        if (place >= 0 && place < listed.size()) {
            listed.remove(place);
        }
    }

    private static int memberFact(Member person, int what) {
        switch (what) {
            case 0: return person.level;
            case 1: return person.isFlying ? 1 : 0;
            case 2: return person.landings;
            case 3: return person.minutes;
            case 4: return person.lessons;
            default: return person.solos;
        }
    }

    private static int gliderFact(Glider plane, int what) {
        switch (what) {
            case 0: return plane.state;
            case 1: return plane.isBarred ? 1 : 0;
            case 2: return plane.landings;
            case 3: return plane.minutes;
            default: return plane.flight == null ? NONE : plane.flight.number;
        }
    }

    private static int flightFact(Flight told, int what) {
        switch (what) {
            case 0: return told.state;
            case 1: return told.member.number;
            case 2: return told.second == null ? NONE : told.second.number;
            case 3: return told.glider.number;
            case 4: return told.height;
            case 5: return told.begin;
            case 6: return told.landing;
            default: return told.cost;
        }
    }

    private int countOf(int what) {
        switch (what) {
            case 0: return members.size();
            case 1: return gliders.size();
            case 2: return flights.size();
            case 3: return listed.size();
            case 4: return glidersInTheAir();
            case 5: return waiting.size();
            case 6: return CABLES - cablesTaken;
            default: return freeTugs();
        }
    }

    private int glidersInTheAir() {
        int sum = 0;
        for (int i = 0; i < gliders.size(); i++) {
            if (gliders.get(i).state != ON_GROUND) {
                sum++;
            }
        }
        return sum;
    }

    private int tugsTaken() {
        int taken = 0;
        for (int i = 0; i < tugsDue.length; i++) {
            if (tugsDue[i] != 0) {
                taken++;
            }
        }
        return taken;
    }

    private int freeTugs() {
        return tugs - tugsTaken();
    }

    // ---- who may fly

    private static boolean hasEarnedNextLevel(Member person) {
        return person.level == STUDENT && person.lessons >= LESSONS_TO_SOLO
                || person.level == SOLO && person.solos >= SOLOS_TO_PILOT;
    }

    private static boolean hasTeacher(Flight asked) {
        return asked.second != null && asked.second.level == TEACHER;
    }

    private static boolean needsTeacher(Member flier) {
        return flier.level == STUDENT || flier.level == SOLO && flier.lessons == 0;
    }

    private static int windLimitOf(int level) {
        switch (level) {
            case STUDENT: return 0;
            case SOLO: return 12;
            case PILOT: return 25;
            default: return 30;
        }
    }

    private static boolean hasFlyingMember(Flight asked) {
        return asked.member.isFlying || asked.second != null && asked.second.isFlying;
    }

    private boolean isTooWindyFor(Flight asked) {
        int commanderLevel = hasTeacher(asked) ? TEACHER : asked.member.level;
        return wind > asked.glider.limit || wind > windLimitOf(commanderLevel);
    }

    private boolean hasNothingToLaunch(Flight asked) {
        return asked.height == 0 ? cablesTaken >= CABLES : freeTugs() <= 0;
    }

    private int reasonAgainst(Flight asked) {
        Glider plane = asked.glider;
        if (hasFlyingMember(asked)) {
            return 1;
        }
        if (plane.state != ON_GROUND || plane.isBarred) {
            return 2;
        }
        if (asked.second != null && plane.seats == 1) {
            return 3;
        }
        if (needsTeacher(asked.member) && !hasTeacher(asked)) {
            return 4;
        }
        if (isTooWindyFor(asked)) {
            return 5;
        }
        if (sunset - time < LEAST_DAYLIGHT) {
            return 6;
        }
        if (hasNothingToLaunch(asked)) {
            return 7;
        }
        return isBusy() ? 8 : 0;
    }

    // ---- how a minute passes

    private boolean passMinute() {
        time++;
        freeCables();
        freeDueTugs();
        beginToWait();
        if (!isBusy()) {
            landFirstWaiting();
        }
        return !isBusy() && startFirstThatCan();
    }

    private void freeCables() {
        if (cablesTaken >= CABLES && time >= cablesDue) {
            cablesTaken = 0;
        }
    }

    private void freeDueTugs() {
        for (int i = 0; i < tugsDue.length; i++) {
            if (time >= tugsDue[i]) {
                tugsDue[i] = 0;
            }
        }
    }

    private void beginToWait() {
        for (int i = 0; i < gliders.size(); i++) {
            Glider plane = gliders.get(i);
            if (plane.state == FLIES && mustLand(plane)) {
                plane.state = WAITS;
                waiting.add(plane);
            }
        }
    }

    private boolean mustLand(Glider plane) {
        Flight made = plane.flight;
        return made != null && (plane.isCalled || time >= sunset || time - made.begin >= made.minutes);
    }

    // Gliders come to wait in the order in which they are to land, so the first has waited longest.
    private void landFirstWaiting() {
        if (!waiting.isEmpty()) {
            Glider plane = waiting.remove(0);
            Flight made = plane.flight;
            if (made != null) {
                land(plane, made);
            }
        }
    }

    private void land(Glider plane, Flight made) {
        int minutes = time - made.begin;
        made.state = LANDED;
        made.landing = time;
        made.cost = launchPrice(made.height) + plane.rate * Math.min(minutes, MOST_PAID_MINUTES);
        plane.state = ON_GROUND;
        plane.flight = null;
        plane.isCalled = false;
        plane.landings++;
        plane.minutes += minutes;
        writeDown(made, minutes);
        busyUntil = time + BUSY_AFTER_LANDING;
    }

    private static int launchPrice(int height) {
        return height == 0 ? WINCH_PRICE : height / HEIGHT_PER_PRICE;
    }

    private static void writeDown(Flight made, int minutes) {
        Member flier = made.member;
        Member companion = made.second;
        flier.bill += made.cost;
        bringDown(flier, minutes);
        if (companion == null) {
            flier.solos++;
        } else {
            bringDown(companion, minutes);
            if (companion.level == TEACHER) {
                flier.lessons++;
            }
        }
    }

    private static void bringDown(Member person, int minutes) {
        person.isFlying = false;
        person.landings++;
        person.minutes += minutes;
    }

    private boolean startFirstThatCan() {
        for (int place = 0; place < listed.size(); place++) {
            Flight next = listed.get(place);
            if (reasonAgainst(next) == 0) {
                takeOffList(place);
                start(next);
                return true;
            }
        }
        return false;
    }

    private void start(Flight next) {
        next.state = BEGUN;
        next.begin = time;
        next.member.isFlying = true;
        if (next.second != null) {
            next.second.isFlying = true;
        }
        next.glider.state = FLIES;
        next.glider.flight = next;
        if (next.height == 0) {
            takeCable();
            busyUntil = time + BUSY_AFTER_WINCH;
        } else {
            takeTug(next.height);
            busyUntil = time + BUSY_AFTER_TUG;
        }
    }

    private void takeCable() {
        cablesTaken++;
        if (cablesTaken >= CABLES) {
            cablesDue = time + CABLE_MINUTES;
        }
    }

    private void takeTug(int height) {
        for (int i = 0; i < tugsDue.length; i++) {
            if (tugsDue[i] == 0) {
                tugsDue[i] = time + TUG_MINUTES + height / 100;
                return;
            }
        }
    }

    private static final class Member {
        private final int number;
        private int level;
        private boolean isFlying;
        private int landings;
        private int minutes;
        private int lessons;
        private int solos;
        private int bill;

        private Member(int number, int level) {
            this.number = number;
            this.level = level;
        }
    }

    private static final class Glider {
        private final int number;
        private final int seats;
        private final int rate;
        private final int limit;
        private int state;
        private boolean isBarred;
        private boolean isCalled;
        private int landings;
        private int minutes;
        // What it flies now; null on the ground.
        private Flight flight;

        private Glider(int number, int seats, int rate, int limit) {
            this.number = number;
            this.seats = seats;
            this.rate = rate;
            this.limit = limit;
            state = ON_GROUND;
        }
    }

    private static final class Flight {
        private final int number;
        private final Member member;
        // Null where there is none.
        private final Member second;
        private final Glider glider;
        private int height;
        private int minutes;
        private int state;
        private int askedAt;
        private int begin;
        private int landing;
        private int cost;

        private Flight(int number, Member member, Member second, Glider glider) {
            this.number = number;
            this.member = member;
            this.second = second;
            this.glider = glider;
            state = LISTED;
            begin = NONE;
            landing = NONE;
        }
    }
}
