import java.util.ArrayList;
import java.util.List;
import java.util.Random;

/**
 * Random runs with fixed seeds: each answer, each exception's exact class, and the digest after each fourth call
 * are compared with a model that works everything out from the history of the flights.
 */
public final class RandomRuns {
    private static final int RUNS = 1000;
    /** With a digest after each fourth step, a run stays within the 512 calls of the document. */
    private static final int STEPS = 408;
    private static final int DIGEST_EVERY = 4;

    /** What stands for a thrown exception among the answers. */
    private static final long BOUNDS = Long.MIN_VALUE;
    private static final long ARGUMENT = Long.MIN_VALUE + 1;
    private static final long STATE = Long.MIN_VALUE + 2;
    private static final long OTHER = Long.MIN_VALUE + 3;

    private static final int FAR = 1000000;
    private static final String[] NAMES = {"addMember", "addGlider", "setWind", "setSunset", "setTugs", "bar", "promote",
        "member", "glider", "ask", "drop", "list", "reason", "call", "tick", "now", "flight", "count", "isBusy", "bill",
        "pay", "income", "longest", "waited", "digest"};

    private static final class Asked {
        int member;
        int second;
        int glider;
        int height;
        int minutes;
        int at;
        int begin = FAR;
        int wait = FAR;
        int landing = FAR;
        boolean dropped;
        boolean called;
    }

    private static final class Model {
        final List<Integer> levels = new ArrayList<>();
        final List<Long> paid = new ArrayList<>();
        final List<int[]> gliders = new ArrayList<>();
        final List<Boolean> barred = new ArrayList<>();
        final List<Asked> flights = new ArrayList<>();
        int now = 0;
        int wind = 10;
        int sunset = 600;
        int tugs = 1;

        boolean flies(Asked f) {
            return f.begin <= now && f.landing > now;
        }

        boolean landed(Asked f) {
            return f.landing <= now;
        }

        boolean onList(Asked f) {
            return !f.dropped && f.begin > now;
        }

        List<Integer> list() {
            List<Integer> all = new ArrayList<>();
            for (int i = 0; i < flights.size(); i++) {
                if (onList(flights.get(i))) {
                    all.add(i);
                }
            }
            return all;
        }

        int flightOf(int glider) {
            for (int i = 0; i < flights.size(); i++) {
                if (flights.get(i).glider == glider && flies(flights.get(i))) {
                    return i;
                }
            }
            return -1;
        }

        boolean memberFlies(int member) {
            return flights.stream().anyMatch(f -> flies(f) && (f.member == member || f.second == member));
        }

        boolean busy() {
            return flights.stream().anyMatch(f -> landed(f) && now < f.landing + 2
                    || f.begin <= now && now < f.begin + (f.height == 0 ? 2 : 3));
        }

        int takenTugs() {
            return (int) flights.stream()
                    .filter(f -> f.height > 0 && f.begin <= now && now < f.begin + 4 + f.height / 100).count();
        }

        /** Winch starts come in pairs; ten minutes after the second of a pair both cables are there again. */
        int freeCables() {
            int[] begins = flights.stream().filter(f -> f.height == 0 && f.begin <= now).mapToInt(f -> f.begin).sorted().toArray();
            if (begins.length % 2 == 1) {
                return 1;
            }
            return begins.length > 0 && now < begins[begins.length - 1] + 10 ? 0 : 2;
        }

        boolean taught(Asked f) {
            return f.second >= 0 && levels.get(f.second) == 3;
        }

        int lessons(int member) {
            return (int) flights.stream().filter(f -> landed(f) && f.member == member && taught(f)).count();
        }

        int solos(int member) {
            return (int) flights.stream().filter(f -> landed(f) && f.member == member && f.second < 0).count();
        }

        int cost(Asked f) {
            int rate = gliders.get(f.glider)[1];
            return !landed(f) ? 0
                    : (f.height == 0 ? 8 : f.height / 20) + rate * Math.min(180, f.landing - f.begin);
        }

        long bill(int member) {
            return flights.stream().filter(f -> f.member == member).mapToLong(this::cost).sum() - paid.get(member);
        }

        int reason(Asked f) {
            int level = levels.get(f.member);
            int[] glider = gliders.get(f.glider);
            boolean ready = level >= 2 || level == 1 && lessons(f.member) > 0;
            int most = new int[] {0, 12, 25, 30}[taught(f) ? 3 : level];
            boolean[] against = {
                memberFlies(f.member) || f.second >= 0 && memberFlies(f.second),
                flightOf(f.glider) >= 0 || barred.get(f.glider),
                f.second >= 0 && glider[0] == 1,
                !ready && !taught(f),
                wind > Math.min(most, glider[2]),
                now + 10 > sunset,
                f.height == 0 ? freeCables() == 0 : takenTugs() >= tugs,
                busy(),
            };
            for (int i = 0; i < against.length; i++) {
                if (against[i]) {
                    return i + 1;
                }
            }
            return 0;
        }

        boolean minute() {
            now++;
            Asked next = null;
            for (int g = 0; g < gliders.size(); g++) {
                int number = flightOf(g);
                if (number >= 0) {
                    Asked f = flights.get(number);
                    if (f.wait == FAR && (f.called || now >= sunset || now >= f.begin + f.minutes)) {
                        f.wait = now;
                    }
                    if (f.wait < FAR && (next == null || f.wait < next.wait)) {
                        next = f;
                    }
                }
            }
            if (next != null && !busy()) {
                next.landing = now;
            }
            for (int number : list()) {
                if (reason(flights.get(number)) == 0) {
                    flights.get(number).begin = now;
                    return true;
                }
            }
            return false;
        }

        long member(int m, int what) {
            long[] facts = {levels.get(m), memberFlies(m) ? 1 : 0, 0, 0, lessons(m), solos(m)};
            for (Asked f : flights) {
                if (landed(f) && (f.member == m || f.second == m)) {
                    facts[2]++;
                    facts[3] += f.landing - f.begin;
                }
            }
            return facts[what];
        }

        long glider(int g, int what) {
            int number = flightOf(g);
            long[] facts = {number < 0 ? 0 : flights.get(number).wait <= now ? 2 : 1, barred.get(g) ? 1 : 0, 0, 0, number};
            for (Asked f : flights) {
                if (landed(f) && f.glider == g) {
                    facts[2]++;
                    facts[3] += f.landing - f.begin;
                }
            }
            return facts[what];
        }

        long flight(int number, int what) {
            Asked f = flights.get(number);
            return new long[] {f.dropped ? 3 : onList(f) ? 0 : flies(f) ? 1 : 2, f.member, f.second, f.glider, f.height,
                f.begin == FAR ? -1 : f.begin, f.landing == FAR ? -1 : f.landing, cost(f)}[what];
        }

        long count(int what) {
            long flying = flights.stream().filter(this::flies).count();
            long waiting = flights.stream().filter(f -> flies(f) && f.wait <= now).count();
            return new long[] {levels.size(), gliders.size(), flights.size(), list().size(), flying, waiting,
                freeCables(), tugs - takenTugs()}[what];
        }

        long longest() {
            int best = -1;
            int most = -1;
            for (int i = 0; i < flights.size(); i++) {
                Asked f = flights.get(i);
                if (landed(f) && f.landing - f.begin > most) {
                    most = f.landing - f.begin;
                    best = i;
                }
            }
            return best;
        }

        double waited() {
            long begun = flights.stream().filter(f -> f.begin <= now).count();
            long sum = flights.stream().filter(f -> f.begin <= now).mapToLong(f -> f.begin - f.at).sum();
            return begun == 0 ? 0 : (double) sum / begun;
        }

        long digest() {
            List<Long> all = new ArrayList<>();
            all.add((long) now);
            for (int what = 0; what < 8; what++) {
                all.add(count(what));
            }
            for (int m = 0; m < levels.size(); m++) {
                for (int what = 0; what < 6; what++) {
                    all.add(member(m, what));
                }
                all.add(bill(m));
            }
            for (int g = 0; g < gliders.size(); g++) {
                for (int what = 0; what < 5; what++) {
                    all.add(glider(g, what));
                }
            }
            for (int f = 0; f < flights.size(); f++) {
                for (int what = 0; what < 8; what++) {
                    all.add(flight(f, what));
                }
            }
            list().forEach(f -> all.add((long) f));
            long d = 317;
            for (long x : all) {
                d = d * 31 + x;
            }
            return d;
        }

        boolean noMember(int m) {
            return m < 0 || m >= levels.size();
        }

        boolean noGlider(int g) {
            return g < 0 || g >= gliders.size();
        }

        boolean noFlight(int f) {
            return f < 0 || f >= flights.size();
        }

        static boolean out(int x, int least, int most) {
            return x < least || x > most;
        }

        long answer(int call, int[] a) {
            switch (call) {
                case 0:
                    if (out(a[0], 0, 3)) return ARGUMENT;
                    if (levels.size() == 16) return STATE;
                    levels.add(a[0]);
                    paid.add(0L);
                    return levels.size() - 1;
                case 1:
                    if (out(a[0], 1, 2) || out(a[1], 1, 50) || out(a[2], 5, 40)) return ARGUMENT;
                    if (gliders.size() == 8) return STATE;
                    gliders.add(new int[] {a[0], a[1], a[2]});
                    barred.add(false);
                    return gliders.size() - 1;
                case 2: {
                    if (out(a[0], 0, 40)) return ARGUMENT;
                    int before = wind;
                    wind = a[0];
                    return before;
                }
                case 3: {
                    if (out(a[0], 0, 1500)) return ARGUMENT;
                    int before = sunset;
                    sunset = a[0];
                    return before;
                }
                case 4:
                    if (out(a[0], 0, 2)) return ARGUMENT;
                    if (takenTugs() > a[0]) return STATE;
                    tugs = a[0];
                    return tugs - takenTugs();
                case 5:
                    if (noGlider(a[0])) return BOUNDS;
                    if (flightOf(a[0]) >= 0) return STATE;
                    return barred.set(a[0], a[1] != 0) ? 1 : 0;
                case 6: {
                    if (noMember(a[0])) return BOUNDS;
                    int level = levels.get(a[0]);
                    if (memberFlies(a[0])) return STATE;
                    if (!(level == 0 && lessons(a[0]) >= 3) && !(level == 1 && solos(a[0]) >= 5)) return STATE;
                    levels.set(a[0], level + 1);
                    return level + 1;
                }
                case 7: return noMember(a[0]) || out(a[1], 0, 5) ? BOUNDS : member(a[0], a[1]);
                case 8: return noGlider(a[0]) || out(a[1], 0, 4) ? BOUNDS : glider(a[0], a[1]);
                case 9: return asked(a);
                case 10: {
                    if (noFlight(a[0])) return BOUNDS;
                    int place = list().indexOf(a[0]);
                    if (place < 0) return STATE;
                    flights.get(a[0]).dropped = true;
                    return place;
                }
                case 11: return a[0] < 0 ? BOUNDS : a[0] >= list().size() ? -1 : list().get(a[0]);
                case 12: return noFlight(a[0]) ? BOUNDS : !onList(flights.get(a[0])) ? STATE : reason(flights.get(a[0]));
                case 13:
                    if (noGlider(a[0])) return BOUNDS;
                    if (flightOf(a[0]) < 0) return STATE;
                    flights.get(flightOf(a[0])).called = true;
                    return now - flights.get(flightOf(a[0])).begin;
                case 14: {
                    if (out(a[0], 1, 300) || now + a[0] > 1500) return ARGUMENT;
                    int begun = 0;
                    for (int i = 0; i < a[0]; i++) {
                        begun += minute() ? 1 : 0;
                    }
                    return begun;
                }
                case 15: return now;
                case 16: return noFlight(a[0]) || out(a[1], 0, 7) ? BOUNDS : flight(a[0], a[1]);
                case 17: return out(a[0], 0, 7) ? BOUNDS : count(a[0]);
                case 18: return busy() ? 1 : 0;
                case 19: return noMember(a[0]) ? BOUNDS : bill(a[0]);
                case 20:
                    if (noMember(a[0])) return BOUNDS;
                    if (out(a[1], 1, 100000)) return ARGUMENT;
                    paid.set(a[0], paid.get(a[0]) + a[1]);
                    return bill(a[0]);
                case 21: return flights.stream().mapToLong(this::cost).sum();
                case 22: return longest();
                case 23: return Double.doubleToLongBits(waited());
                default: return digest();
            }
        }

        long asked(int[] a) {
            if (noMember(a[0]) || noGlider(a[2]) || a[1] != -1 && noMember(a[1])) return BOUNDS;
            if (a[0] == a[1] || a[3] != 0 && out(a[3], 200, 1500) || out(a[4], 2, 300)) return ARGUMENT;
            if (list().size() == 30 || flights.size() == 100) return STATE;
            Asked f = new Asked();
            f.member = a[0];
            f.second = a[1];
            f.glider = a[2];
            f.height = a[3];
            f.minutes = a[4];
            f.at = now;
            flights.add(f);
            return flights.size() - 1;
        }
    }

    private static long answer(GliderDay x, int call, int[] a) {
        switch (call) {
            case 0: return x.addMember(a[0]);
            case 1: return x.addGlider(a[0], a[1], a[2]);
            case 2: return x.setWind(a[0]);
            case 3: return x.setSunset(a[0]);
            case 4: return x.setTugs(a[0]);
            case 5: return x.bar(a[0], a[1] != 0) ? 1 : 0;
            case 6: return x.promote(a[0]);
            case 7: return x.member(a[0], a[1]);
            case 8: return x.glider(a[0], a[1]);
            case 9: return x.ask(a[0], a[1], a[2], a[3], a[4]);
            case 10: return x.drop(a[0]);
            case 11: return x.list(a[0]);
            case 12: return x.reason(a[0]);
            case 13: return x.call(a[0]);
            case 14: return x.tick(a[0]);
            case 15: return x.now();
            case 16: return x.flight(a[0], a[1]);
            case 17: return x.count(a[0]);
            case 18: return x.isBusy() ? 1 : 0;
            case 19: return x.bill(a[0]);
            case 20: return x.pay(a[0], a[1]);
            case 21: return x.income();
            case 22: return x.longest();
            case 23: return Double.doubleToLongBits(x.waited());
            default: return x.digest();
        }
    }

    private static long answerOrException(GliderDay x, int call, int[] a) {
        try {
            return answer(x, call, a);
        } catch (RuntimeException e) {
            // What the Java machine or its library throws by itself never answers a call, whatever its class.
            if (!e.getStackTrace()[0].getClassName().equals("GliderDay")) {
                return OTHER;
            }
            return e.getClass() == IndexOutOfBoundsException.class ? BOUNDS
                    : e.getClass() == IllegalArgumentException.class ? ARGUMENT
                    : e.getClass() == IllegalStateException.class ? STATE : OTHER;
        }
    }

    private static int pick(Random r, int least, int most) {
        return least + r.nextInt(most - least + 1);
    }

    /** Mostly within the bounds, now and then on an edge or far outside. */
    private static int about(Random r, int least, int most) {
        int kind = r.nextInt(60);
        int[] odd = {least - 1, most + 1, Integer.MIN_VALUE, Integer.MAX_VALUE, least, most};
        return kind < odd.length ? odd[kind] : pick(r, least, Math.max(least, most));
    }

    private static int[] arguments(Random r, Model m, int call, int pace) {
        int member = about(r, 0, m.levels.size() - 1);
        int glider = about(r, 0, m.gliders.size() - 1);
        List<Integer> list = m.list();
        boolean fromList = !list.isEmpty() && r.nextInt(3) > 0;
        int flight = fromList ? list.get(r.nextInt(list.size())) : about(r, 0, m.flights.size() - 1);
        switch (call) {
            case 0: return new int[] {r.nextInt(2) > 0 ? pick(r, 2, 3) : about(r, 0, 3)};
            case 1: return new int[] {r.nextInt(4) > 0 ? 2 : about(r, 1, 2), about(r, 1, 50), r.nextInt(2) > 0 ? 30 : about(r, 5, 40)};
            case 2: return new int[] {r.nextInt(3) > 0 ? pick(r, 0, 14) : about(r, 0, 40)};
            case 3: return new int[] {r.nextInt(3) > 0 ? 1500 : r.nextInt(2) > 0 ? m.now + r.nextInt(30) : about(r, 0, 1500)};
            case 4: return new int[] {about(r, 0, 2)};
            case 5: return new int[] {glider, r.nextInt(4) == 0 ? 1 : 0};
            case 6: return new int[] {member};
            case 7: return new int[] {member, about(r, 0, 5)};
            case 8: return new int[] {glider, about(r, 0, 4)};
            case 9: return new int[] {member, r.nextInt(5) > 2 ? -1 : about(r, 0, m.levels.size() - 1), glider,
                r.nextInt(2) > 0 ? 0 : about(r, 200, 1500), r.nextInt(4) > 0 ? pick(r, 2, 12) : about(r, 2, 300)};
            case 10:
            case 12: return new int[] {flight};
            case 11: return new int[] {about(r, 0, 30)};
            case 13: return new int[] {glider};
            case 14: return new int[] {r.nextInt(40) == 0 ? about(r, 1, 300) : pick(r, 1, pace)};
            case 16: return new int[] {r.nextInt(2) > 0 ? flight : about(r, 0, m.flights.size() - 1), about(r, 0, 7)};
            case 17: return new int[] {about(r, 0, 7)};
            case 19: return new int[] {member};
            case 20: return new int[] {member, about(r, 1, 100000)};
            default: return new int[0];
        }
    }

    private static int nextCall(Random r, Model m, int step, int eagerness) {
        if (step < 10) {
            return step % 2;
        }
        if (m.list().size() >= 28 && r.nextInt(3) > 0) {
            return 10;
        }
        int kind = r.nextInt(100);
        return kind < eagerness ? 9 : kind < 45 ? 14 : kind < 49 ? 12 : kind < 52 ? 13 : kind < 56 ? 6 : r.nextInt(NAMES.length);
    }

    private static String told(long answer) {
        return answer == BOUNDS ? "IndexOutOfBoundsException" : answer == ARGUMENT ? "IllegalArgumentException"
                : answer == STATE ? "IllegalStateException" : answer == OTHER ? "another exception" : Long.toString(answer);
    }

    /** What the runs have met, so that a run of dull calls does not pass for a test. */
    private static final int[] reasonsMet = new int[9];
    private static final int[] promotionsMet = new int[4];
    private static int mostWaiting = 0;
    private static int fullLists = 0;
    private static int fullDays = 0;
    private static int wholeDays = 0;
    private static int takenTugsMet = 0;

    private static void note(Model m, int call, long answer) {
        if (call == 12 && answer >= 0) {
            reasonsMet[(int) answer]++;
        }
        if (call == 6 && answer >= 0) {
            promotionsMet[(int) answer]++;
        }
        if (call == 9 && answer == STATE) {
            fullLists += m.list().size() == 30 ? 1 : 0;
            fullDays += m.flights.size() == 100 ? 1 : 0;
        }
        if (call == 4 && answer == STATE) {
            takenTugsMet++;
        }
        mostWaiting = Math.max(mostWaiting, (int) m.count(5));
        wholeDays += m.now == 1500 && call == 14 ? 1 : 0;
    }

    private static boolean hasMetAll() {
        boolean all = promotionsMet[1] > 0 && promotionsMet[2] > 0 && mostWaiting >= 3 && fullLists > 0 && fullDays > 0
                && wholeDays > 0 && takenTugsMet > 0;
        for (int met : reasonsMet) {
            all = all && met > 0;
        }
        return all;
    }

    private static boolean runIsRight(int seed) {
        Random r = new Random(seed);
        int pace = pick(r, 1, 12);
        int eagerness = pick(r, 5, 40);
        GliderDay x = new GliderDay();
        Model m = new Model();
        for (int step = 0; step < STEPS; step++) {
            int call = nextCall(r, m, step, eagerness);
            int[] a = arguments(r, m, call, pace);
            long want = m.answer(call, a);
            long got = answerOrException(x, call, a);
            note(m, call, want);
            boolean isDigested = step % DIGEST_EVERY == 0;
            if (got != want || isDigested && x.digest() != m.digest()) {
                System.out.println("seed " + seed + ", step " + step + ": " + NAMES[call] + java.util.Arrays.toString(a)
                        + " answered " + told(got) + ", due is " + told(want)
                        + (got == want ? ", but the digest is not as due then" : ""));
                return false;
            }
        }
        return true;
    }

    public static void main(String[] args) {
        int wrong = 0;
        for (int seed = 0; seed < RUNS; seed++) {
            wrong += runIsRight(seed) ? 0 : 1;
        }
        System.out.println("reasons met " + java.util.Arrays.toString(reasonsMet) + ", promotions "
                + java.util.Arrays.toString(promotionsMet) + ", most waiting " + mostWaiting + ", full lists " + fullLists
                + ", full days " + fullDays + ", whole days " + wholeDays + ", tugs refused " + takenTugsMet);
        if (!hasMetAll()) {
            System.out.println("the runs did not meet all that they should");
            wrong++;
        }
        System.out.println(wrong == 0 ? "all runs are as due" : wrong + " runs are not as due");
        if (wrong != 0) {
            System.exit(1);
        }
    }
}
