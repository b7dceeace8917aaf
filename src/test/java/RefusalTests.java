import java.util.ArrayList;
import java.util.List;

/**
 * 'A method that throws an exception changes nothing.' Each refused call is made on a day in the midst of everything;
 * the day then goes on as its twin does, on which the call was not made. This also sees what no digest tells:
 * the wind, sunset, when cables, tugs and the field are free again, and what was called or asked for when.
 */
public final class RefusalTests extends Checks {
    /** A call that is refused on the day that it is made on. */
    private interface Refused {
        void on(GliderDay day);
    }

    /** A way to come to a day on which calls are refused. */
    private interface Beginning {
        GliderDay make();
    }

    private static final class Case {
        final String what;
        final Class<?> due;
        final Refused call;

        Case(String what, Class<?> due, Refused call) {
            this.what = what;
            this.due = due;
            this.call = call;
        }
    }

    private static final class Cases {
        final List<Case> all = new ArrayList<>();

        void add(String what, Class<?> due, Refused call) {
            all.add(new Case(what, due, call));
        }
    }

    private static final int[] FAR_OFF = {-1, 1000, MIN, MAX};

    private static GliderDay fullClub() {
        GliderDay day = new GliderDay();
        int[] levels = {PILOT, PILOT, PILOT, PILOT, STUDENT, TEACHER, SOLO, TEACHER};
        for (int i = 0; i < 16; i++) {
            day.addMember(levels[i % 8]);
        }
        for (int i = 0; i < 8; i++) {
            day.addGlider(i == 7 ? 1 : 2, 1 + i, 40);
        }
        day.setTugs(2);
        return day;
    }

    /**
     * 16 members, 8 gliders, time 12: flight 0 landed, 1 and 2 wait, 3 flies, 4 was dropped, 5 to 34 are on the list;
     * no cable and no tug is free, the field is busy, and glider 4 is barred.
     */
    private static GliderDay fullDay() {
        GliderDay day = fullClub();
        day.ask(0, -1, 0, 0, 2);
        day.ask(1, -1, 1, 0, 300);
        day.ask(2, -1, 2, 1500, 300);
        day.ask(3, -1, 3, 1500, 300);
        day.tick(11);
        day.call(1);
        day.call(2);
        day.tick(1);
        day.bar(4, true);
        day.pay(8, 500);
        day.drop(day.ask(8, -1, 5, 0, 20));
        for (int i = 0; i < 30; i++) {
            day.ask(8 + i % 8, i % 3 == 0 ? i % 8 : -1, 4 + i % 4, i % 2 * 400, 4 + i % 5);
        }
        return day;
    }

    /** One minute before the end, with 100 flights asked for: 1 flies, and 9 are on the list. */
    private static GliderDay lastMinute() {
        GliderDay day = fullClub();
        day.setSunset(1500);
        for (int i = 0; i < 90; i++) {
            day.drop(day.ask(0, -1, 0, 0, 5));
        }
        for (int i = 0; i < 4; i++) {
            day.tick(300);
        }
        for (int i = 0; i < 10; i++) {
            day.ask(i % 4, -1, 0, 1500, 300);
        }
        day.tick(299);
        return day;
    }

    private static void refusedSettings(Cases cases) {
        cases.add("addMember(-1)", ARGUMENT, d -> d.addMember(-1));
        cases.add("addMember(4)", ARGUMENT, d -> d.addMember(4));
        cases.add("addMember(2) as the 17th", STATE, d -> d.addMember(2));
        cases.add("addGlider(0, 1, 5)", ARGUMENT, d -> d.addGlider(0, 1, 5));
        cases.add("addGlider(1, 51, 5)", ARGUMENT, d -> d.addGlider(1, 51, 5));
        cases.add("addGlider(1, 1, 41)", ARGUMENT, d -> d.addGlider(1, 1, 41));
        cases.add("addGlider(1, 1, 5) as the 9th", STATE, d -> d.addGlider(1, 1, 5));
        cases.add("setWind(-1)", ARGUMENT, d -> d.setWind(-1));
        cases.add("setWind(41)", ARGUMENT, d -> d.setWind(41));
        cases.add("setSunset(-1)", ARGUMENT, d -> d.setSunset(-1));
        cases.add("setSunset(1501)", ARGUMENT, d -> d.setSunset(1501));
        cases.add("setTugs(-1)", ARGUMENT, d -> d.setTugs(-1));
        cases.add("setTugs(3)", ARGUMENT, d -> d.setTugs(3));
        cases.add("setTugs(0) with 2 taken", STATE, d -> d.setTugs(0));
        cases.add("setTugs(1) with 2 taken", STATE, d -> d.setTugs(1));
        cases.add("bar(1) that waits", STATE, d -> d.bar(1, true));
        cases.add("bar(3) that flies", STATE, d -> d.bar(3, true));
        cases.add("promote(3) that flies", STATE, d -> d.promote(3));
        cases.add("promote(4), a STUDENT", STATE, d -> d.promote(4));
        cases.add("promote(5), a TEACHER", STATE, d -> d.promote(5));
        cases.add("promote(6), a SOLO", STATE, d -> d.promote(6));
        cases.add("promote(0), a PILOT", STATE, d -> d.promote(0));
    }

    private static void refusedNumbers(Cases cases) {
        for (int bad : FAR_OFF) {
            cases.add("bar(" + bad + ", true)", BOUNDS, d -> d.bar(bad, true));
            cases.add("promote(" + bad + ")", BOUNDS, d -> d.promote(bad));
            cases.add("member(" + bad + ", 0)", BOUNDS, d -> d.member(bad, 0));
            cases.add("member(0, " + bad + ")", BOUNDS, d -> d.member(0, bad));
            cases.add("glider(" + bad + ", 0)", BOUNDS, d -> d.glider(bad, 0));
            cases.add("glider(0, " + bad + ")", BOUNDS, d -> d.glider(0, bad));
            cases.add("drop(" + bad + ")", BOUNDS, d -> d.drop(bad));
            cases.add("reason(" + bad + ")", BOUNDS, d -> d.reason(bad));
            cases.add("call(" + bad + ")", BOUNDS, d -> d.call(bad));
            cases.add("flight(" + bad + ", 0)", BOUNDS, d -> d.flight(bad, 0));
            cases.add("flight(0, " + bad + ")", BOUNDS, d -> d.flight(0, bad));
            cases.add("count(" + bad + ")", BOUNDS, d -> d.count(bad));
            cases.add("bill(" + bad + ")", BOUNDS, d -> d.bill(bad));
            cases.add("pay(" + bad + ", 5)", BOUNDS, d -> d.pay(bad, 5));
            cases.add("tick(" + bad + ")", ARGUMENT, d -> d.tick(bad));
        }
        cases.add("list(-1)", BOUNDS, d -> d.list(-1));
        cases.add("list(MIN)", BOUNDS, d -> d.list(MIN));
        cases.add("pay(0, 0)", ARGUMENT, d -> d.pay(0, 0));
        cases.add("pay(0, 100001)", ARGUMENT, d -> d.pay(0, 100001));
        cases.add("tick(0)", ARGUMENT, d -> d.tick(0));
        cases.add("tick(301)", ARGUMENT, d -> d.tick(301));
    }

    private static void refusedFlights(Cases cases) {
        for (int bad : FAR_OFF) {
            cases.add("ask for member " + bad, BOUNDS, d -> d.ask(bad, -1, 0, 0, 5));
            cases.add("ask for glider " + bad, BOUNDS, d -> d.ask(0, -1, bad, 0, 5));
            cases.add("ask for minutes " + bad, ARGUMENT, d -> d.ask(0, -1, 0, 0, bad));
        }
        for (int bad : new int[] {-1, 1, 199, 1501, MIN, MAX}) {
            cases.add("ask for height " + bad, ARGUMENT, d -> d.ask(0, -1, 0, bad, 5));
        }
        cases.add("ask for second -2", BOUNDS, d -> d.ask(0, -2, 0, 0, 5));
        cases.add("ask for second 16", BOUNDS, d -> d.ask(0, 16, 0, 0, 5));
        cases.add("ask for 0 twice", ARGUMENT, d -> d.ask(0, 0, 0, 0, 5));
        cases.add("ask on a full list", STATE, d -> d.ask(0, -1, 0, 0, 5));
        cases.add("drop what landed", STATE, d -> d.drop(0));
        cases.add("drop what waits", STATE, d -> d.drop(1));
        cases.add("drop what flies", STATE, d -> d.drop(3));
        cases.add("drop what was dropped", STATE, d -> d.drop(4));
        cases.add("reason of what landed", STATE, d -> d.reason(0));
        cases.add("reason of what waits", STATE, d -> d.reason(1));
        cases.add("reason of what flies", STATE, d -> d.reason(3));
        cases.add("reason of what was dropped", STATE, d -> d.reason(4));
        cases.add("call on the ground", STATE, d -> d.call(0));
        cases.add("call of what is barred", STATE, d -> d.call(4));
    }

    /** Several exceptions apply: the one that is named first is due. */
    private static void refusedForSeveralReasons(Cases cases) {
        cases.add("addMember(4) as the 17th", ARGUMENT, d -> d.addMember(4));
        cases.add("addGlider(3, 1, 5) as the 9th", ARGUMENT, d -> d.addGlider(3, 1, 5));
        cases.add("setTugs(-5) with 2 taken", ARGUMENT, d -> d.setTugs(-5));
        cases.add("ask for no member, no height, on a full list", BOUNDS, d -> d.ask(16, -1, 0, 1, 5));
        cases.add("ask for no second, no height, on a full list", BOUNDS, d -> d.ask(0, 16, 0, 1, 5));
        cases.add("ask for no glider, the same twice, on a full list", BOUNDS, d -> d.ask(0, 0, 8, 1, 1));
        cases.add("ask for no minutes on a full list", ARGUMENT, d -> d.ask(0, -1, 0, 0, 301));
        cases.add("ask for no height on a full list", ARGUMENT, d -> d.ask(0, -1, 0, 1501, 5));
        cases.add("pay(16, 0)", BOUNDS, d -> d.pay(16, 0));
        cases.add("member(16, 6)", BOUNDS, d -> d.member(16, 6));
    }

    private static void refusedAtTheEnd(Cases cases) {
        cases.add("tick(2) at 1499", ARGUMENT, d -> d.tick(2));
        cases.add("tick(300) at 1499", ARGUMENT, d -> d.tick(300));
        cases.add("the 101st flight", STATE, d -> d.ask(0, -1, 0, 0, 5));
        cases.add("the 101st flight with no minutes", ARGUMENT, d -> d.ask(0, -1, 0, 0, 1));
        cases.add("the 101st flight of nobody", BOUNDS, d -> d.ask(16, -1, 0, 0, 1));
    }

    private static void sameDay(String when, GliderDay day, GliderDay twin) {
        due("the digest " + when, day.digest(), twin.digest());
        due("isBusy " + when, day.isBusy(), twin.isBusy());
        dueMean("waited " + when, day.waited(), twin.waited());
        due("longest " + when, day.longest(), twin.longest());
        due("income " + when, day.income(), twin.income());
    }

    private static void goOnAlike(GliderDay day, GliderDay twin, int minutes) {
        sameDay("then", day, twin);
        for (int i = 0; i < minutes; i++) {
            due("what began at " + (day.now() + 1), day.tick(1), twin.tick(1));
            due("the digest at " + day.now(), day.digest(), twin.digest());
        }
        sameDay("at the end", day, twin);
        due("the wind", day.setWind(1), twin.setWind(1));
        due("the sunset", day.setSunset(1), twin.setSunset(1));
        due("the tugs", day.setTugs(2), twin.setTugs(2));
    }

    private static void eachChangesNothing(Beginning beginning, Cases cases, int minutes) {
        for (Case each : cases.all) {
            test("refused: " + each.what, () -> {
                GliderDay day = beginning.make();
                throwsBy(each.what, each.due, () -> each.call.on(day));
                goOnAlike(day, beginning.make(), minutes);
            });
        }
    }

    private static void theDaysAreAsTheyAreSaidToBe() {
        GliderDay full = fullDay();
        counts(full, 16, 8, 35, 30, 3, 2, 0, 0);
        due("the full day is busy", full.isBusy(), true);
        due("its time", full.now(), 12);
        due("many flights begin after it", full.tick(100) >= 15, true);
        GliderDay last = lastMinute();
        counts(last, 16, 8, 100, 9, 1, 0, 2, 2);
        due("the time of the last minute", last.now(), 1499);
    }

    public static void main(String[] args) {
        test("the days on which calls are refused", RefusalTests::theDaysAreAsTheyAreSaidToBe);
        Cases inTheMidst = new Cases();
        refusedSettings(inTheMidst);
        refusedNumbers(inTheMidst);
        refusedFlights(inTheMidst);
        refusedForSeveralReasons(inTheMidst);
        eachChangesNothing(RefusalTests::fullDay, inTheMidst, 100);
        Cases atTheEnd = new Cases();
        refusedAtTheEnd(atTheEnd);
        eachChangesNothing(RefusalTests::lastMinute, atTheEnd, 1);
        finish();
    }
}
