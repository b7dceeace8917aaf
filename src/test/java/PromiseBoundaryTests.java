import java.math.BigInteger;
import java.util.ArrayList;
import java.util.List;

/** One test for each sentence of promises 1 to 26 that names a boundary case, in the document's order. */
public final class PromiseBoundaryTests extends Checks {

    // ---- promise 1

    private static void aNewDayIsEmpty() {
        GliderDay day = new GliderDay();
        due("members", day.count(0), 0);
        due("gliders", day.count(1), 0);
        due("flights", day.count(2), 0);
        refused(day, "member 0", BOUNDS, () -> day.member(0, 0));
        refused(day, "glider 0", BOUNDS, () -> day.glider(0, 0));
        refused(day, "flight 0", BOUNDS, () -> day.flight(0, 0));
    }

    private static void aNewDayPasses() {
        GliderDay day = new GliderDay();
        due("flights that began", day.tick(300), 0);
        counts(day, 0, 0, 0, 0, 0, 0, 2, 1);
    }

    private static void daysAreApart() {
        GliderDay one = club(PILOT);
        GliderDay other = club(PILOT);
        long before = other.digest();
        one.ask(0, -1, 0, 0, 5);
        one.setWind(7);
        one.setSunset(900);
        one.setTugs(2);
        one.pay(0, 3);
        one.tick(3);
        due("the other's digest", other.digest(), before);
        due("the other's wind", other.setWind(1), 10);
        due("the other's sunset", other.setSunset(1), 600);
    }

    // ---- promise 2

    private static void levelIs0To3() {
        GliderDay day = new GliderDay();
        due("the least", day.addMember(0), 0);
        due("the most", day.addMember(3), 1);
        for (int bad : new int[] {-1, 4, MIN, MAX}) {
            refused(day, "level " + bad, ARGUMENT, () -> day.addMember(bad));
        }
        due("levels", day.member(0, 0) * 10 + day.member(1, 0), 3);
        due("the next number", day.addMember(1), 2);
    }

    private static GliderDay sixteenMembers() {
        GliderDay day = new GliderDay();
        for (int i = 0; i < 16; i++) {
            day.addMember(PILOT);
        }
        return day;
    }

    private static void noMemberBehindThe16th() {
        GliderDay day = sixteenMembers();
        for (int level = 0; level < 4; level++) {
            int l = level;
            refused(day, "a seventeenth of level " + l, STATE, () -> day.addMember(l));
        }
        refused(day, "a level of 4 is named first", ARGUMENT, () -> day.addMember(4));
        refused(day, "a level of -1 is named first", ARGUMENT, () -> day.addMember(-1));
    }

    // ---- promise 3

    private static void seatsRateAndLimit() {
        int[][] good = {{1, 1, 5}, {2, 50, 40}, {1, 50, 5}, {2, 1, 40}};
        int[][] bad = {{0, 25, 20}, {3, 25, 20}, {-1, 25, 20}, {MIN, 25, 20}, {MAX, 25, 20},
            {1, 0, 20}, {1, 51, 20}, {1, -1, 20}, {1, MIN, 20}, {1, MAX, 20},
            {1, 25, 4}, {1, 25, 41}, {1, 25, 0}, {1, 25, -5}, {1, 25, MIN}, {1, 25, MAX}, {0, 0, 0}};
        GliderDay day = new GliderDay();
        for (int[] g : bad) {
            refused(day, "addGlider " + g[0] + " " + g[1] + " " + g[2], ARGUMENT, () -> day.addGlider(g[0], g[1], g[2]));
        }
        for (int i = 0; i < good.length; i++) {
            due("a glider on the edge", day.addGlider(good[i][0], good[i][1], good[i][2]), i);
        }
    }

    private static void noGliderBehindThe8th() {
        GliderDay day = new GliderDay();
        for (int i = 0; i < 8; i++) {
            day.addGlider(1, 1, 5);
        }
        refused(day, "a ninth", STATE, () -> day.addGlider(2, 50, 40));
        refused(day, "seats of 3 are named first", ARGUMENT, () -> day.addGlider(3, 1, 5));
        refused(day, "a rate of 51 is named first", ARGUMENT, () -> day.addGlider(1, 51, 5));
        refused(day, "a limit of 4 is named first", ARGUMENT, () -> day.addGlider(1, 1, 4));
    }

    // ---- promises 4 and 5

    private static void windBefore() {
        GliderDay day = new GliderDay();
        for (int bad : new int[] {-1, 41, MIN, MAX}) {
            refused(day, "wind " + bad, ARGUMENT, () -> day.setWind(bad));
        }
        due("the first", day.setWind(40), 10);
        due("the second", day.setWind(40), 40);
        due("the third", day.setWind(0), 40);
        due("the fourth", day.setWind(1), 0);
    }

    private static void sunsetBefore() {
        GliderDay day = new GliderDay();
        for (int bad : new int[] {-1, 1501, MIN, MAX}) {
            refused(day, "sunset " + bad, ARGUMENT, () -> day.setSunset(bad));
        }
        due("the first", day.setSunset(1500), 600);
        due("the second", day.setSunset(1500), 1500);
        due("the third", day.setSunset(0), 1500);
        due("the fourth", day.setSunset(1), 0);
    }

    private static void sunsetBeforeNow() {
        GliderDay day = new GliderDay();
        day.tick(100);
        due("a sunset in the past", day.setSunset(99), 600);
        due("a sunset now", day.setSunset(100), 99);
    }

    // ---- promise 6

    private static void tugsThatAreFreeThen() {
        GliderDay day = club(PILOT, PILOT);
        for (int tugs = 0; tugs <= 2; tugs++) {
            due("none taken", day.setTugs(tugs), tugs);
        }
        for (int bad : new int[] {-1, 3, MIN, MAX}) {
            refused(day, bad + " tugs", ARGUMENT, () -> day.setTugs(bad));
        }
        day.ask(0, -1, 0, 1500, 300);
        day.tick(1);
        due("one of two taken", day.setTugs(2), 1);
        due("one of one taken", day.setTugs(1), 0);
    }

    private static void fewerTugsThanAreTaken() {
        GliderDay day = club(PILOT, PILOT);
        day.setTugs(2);
        day.ask(0, -1, 0, 1500, 300);
        day.ask(1, -1, 1, 200, 300);
        day.tick(1);
        refused(day, "0 with one taken", STATE, () -> day.setTugs(0));
        due("1 with one taken", day.setTugs(1), 0);
        day.setTugs(2);
        day.tick(3);
        refused(day, "1 with two taken", STATE, () -> day.setTugs(1));
        refused(day, "0 with two taken", STATE, () -> day.setTugs(0));
        refused(day, "-1 with two taken is named first", ARGUMENT, () -> day.setTugs(-1));
        refused(day, "3 with two taken", ARGUMENT, () -> day.setTugs(3));
        due("2 with two taken", day.setTugs(2), 0);
        day.tick(6);
        due("1 when one is free again", day.setTugs(1), 0);
        refused(day, "0 when one is free again", STATE, () -> day.setTugs(0));
        day.tick(10);
        due("0 when both are free again", day.setTugs(0), 0);
        due("2 at last", day.setTugs(2), 2);
    }

    // ---- promise 7

    private static void barNoSuchGlider() {
        GliderDay none = new GliderDay();
        refused(none, "bar(0, true) of none", BOUNDS, () -> none.bar(0, true));
        GliderDay day = club(PILOT);
        for (int bad : new int[] {-1, 3, MIN, MAX}) {
            refused(day, "bar(" + bad + ", true)", BOUNDS, () -> day.bar(bad, true));
            refused(day, "bar(" + bad + ", false)", BOUNDS, () -> day.bar(bad, false));
        }
        due("the first glider", day.bar(0, true), false);
        due("the last glider", day.bar(2, true), false);
        due("the first is barred", day.bar(0, true), true);
        due("the last is barred", day.bar(2, false), true);
        due("and then not", day.bar(2, false), false);
    }

    private static void barNotOnTheGround() {
        GliderDay day = club(PILOT);
        day.ask(0, -1, 0, 500, 2);
        day.tick(1);
        for (boolean isBarred : new boolean[] {true, false}) {
            refused(day, "bar what flies", STATE, () -> day.bar(0, isBarred));
        }
        day.tick(2);
        for (boolean isBarred : new boolean[] {true, false}) {
            refused(day, "bar what waits", STATE, () -> day.bar(0, isBarred));
        }
        day.tick(1);
        due("bar what landed", day.bar(0, true), false);
    }

    // ---- promise 8

    private static void threeLessonsMakeASolo() {
        GliderDay day = club(STUDENT, TEACHER);
        for (int landed = 0; landed < 3; landed++) {
            refused(day, "after " + landed, STATE, () -> day.promote(0));
            lessons(day, 0, 1, 1);
        }
        due("after 3", day.promote(0), SOLO);
        due("its level", day.member(0, 0), SOLO);
        GliderDay more = club(STUDENT, TEACHER);
        lessons(more, 0, 1, 4);
        due("after 4", more.promote(0), SOLO);
    }

    private static void lessonsAsASecondDoNotCount() {
        GliderDay day = club(STUDENT, TEACHER);
        for (int i = 0; i < 4; i++) {
            day.ask(1, 0, 0, 200, 2);
            day.tick(10);
        }
        due("it landed", day.member(0, 2), 4);
        refused(day, "after 4 as the second of a TEACHER", STATE, () -> day.promote(0));
    }

    private static GliderDay soloWith(int soloFlights) {
        GliderDay day = club(SOLO, TEACHER, PILOT);
        lessons(day, 0, 1, 1);
        solos(day, 0, soloFlights);
        return day;
    }

    private static void fiveSolosMakeAPilot() {
        GliderDay day = soloWith(0);
        for (int landed = 0; landed < 5; landed++) {
            refused(day, "after " + landed, STATE, () -> day.promote(0));
            solos(day, 0, 1);
        }
        due("after 5", day.promote(0), PILOT);
        due("its level", day.member(0, 0), PILOT);
        due("after 6", soloWith(6).promote(0), PILOT);
    }

    private static void flightsWithASecondDoNotCount() {
        GliderDay day = soloWith(4);
        lessons(day, 0, 1, 3);
        lessons(day, 0, 2, 3);
        due("its landings", day.member(0, 2), 11);
        refused(day, "after 4 alone and 7 others", STATE, () -> day.promote(0));
    }

    private static void noOtherLevelRises() {
        GliderDay day = club(PILOT, TEACHER);
        solos(day, 0, 6);
        lessons(day, 0, 1, 4);
        solos(day, 1, 6);
        refused(day, "a PILOT", STATE, () -> day.promote(0));
        refused(day, "a TEACHER", STATE, () -> day.promote(1));
    }

    private static void promoteNotInTheAir() {
        GliderDay day = club(STUDENT, TEACHER);
        lessons(day, 0, 1, 3);
        day.ask(0, 1, 0, 500, 2);
        day.tick(1);
        refused(day, "while it flies", STATE, () -> day.promote(0));
        day.tick(2);
        refused(day, "while it waits to land", STATE, () -> day.promote(0));
        day.tick(1);
        due("from the landing on", day.promote(0), SOLO);
        GliderDay second = club(STUDENT, TEACHER);
        lessons(second, 0, 1, 3);
        second.ask(1, 0, 0, 500, 20);
        second.tick(1);
        refused(second, "while it flies as second", STATE, () -> second.promote(0));
    }

    private static void promoteNoSuchMember() {
        GliderDay none = new GliderDay();
        refused(none, "promote(0) of none", BOUNDS, () -> none.promote(0));
        GliderDay day = club(STUDENT, TEACHER);
        for (int bad : new int[] {-1, 2, MIN, MAX}) {
            refused(day, "promote(" + bad + ")", BOUNDS, () -> day.promote(bad));
        }
    }

    // ---- promises 9 and 10

    private static void memberNoSuchFact() {
        GliderDay day = club(PILOT, TEACHER);
        for (int bad : new int[] {-1, 2, 16, MIN, MAX}) {
            refused(day, "member(" + bad + ", 0)", BOUNDS, () -> day.member(bad, 0));
        }
        for (int bad : new int[] {-1, 6, MIN, MAX}) {
            refused(day, "member(1, " + bad + ")", BOUNDS, () -> day.member(1, bad));
        }
        due("the first fact of the first", day.member(0, 0), PILOT);
        due("the last fact of the last", day.member(1, 5), 0);
    }

    private static void memberCountsAsMemberOrSecond() {
        GliderDay day = club(PILOT, TEACHER, PILOT);
        memberFacts(day, 0, PILOT, 0, 0, 0, 0, 0);
        day.ask(0, 1, 0, 500, 5);
        day.tick(20);
        memberFacts(day, 0, PILOT, 0, 1, 5, 1, 0);
        memberFacts(day, 1, TEACHER, 0, 1, 5, 0, 0);
        memberFacts(day, 2, PILOT, 0, 0, 0, 0, 0);
        day.ask(2, 0, 0, 500, 7);
        day.tick(20);
        memberFacts(day, 0, PILOT, 0, 2, 12, 1, 0);
        memberFacts(day, 2, PILOT, 0, 1, 7, 0, 0);
        day.ask(0, -1, 0, 500, 9);
        day.tick(20);
        memberFacts(day, 0, PILOT, 0, 3, 21, 1, 1);
    }

    private static void gliderNoSuchFact() {
        GliderDay none = new GliderDay();
        refused(none, "glider(0, 0) of none", BOUNDS, () -> none.glider(0, 0));
        GliderDay day = club(PILOT);
        for (int bad : new int[] {-1, 3, 8, MIN, MAX}) {
            refused(day, "glider(" + bad + ", 0)", BOUNDS, () -> day.glider(bad, 0));
        }
        for (int bad : new int[] {-1, 5, MIN, MAX}) {
            refused(day, "glider(2, " + bad + ")", BOUNDS, () -> day.glider(2, bad));
        }
        due("the first fact of the first", day.glider(0, 0), 0);
        due("the last fact of the last", day.glider(2, 4), -1);
    }

    private static void barredIs1ElseIs0() {
        GliderDay day = club(PILOT);
        gliderFacts(day, 0, 0, 0, 0, 0, -1);
        day.bar(0, true);
        gliderFacts(day, 0, 0, 1, 0, 0, -1);
        gliderFacts(day, 1, 0, 0, 0, 0, -1);
        day.bar(0, false);
        gliderFacts(day, 0, 0, 0, 0, 0, -1);
    }

    private static void theFlightThatItMakes() {
        GliderDay day = club(PILOT);
        day.ask(0, -1, 0, 500, 2);
        due("before its begin", day.glider(0, 4), -1);
        day.tick(1);
        due("flight 0 while it flies", day.glider(0, 4), 0);
        day.tick(2);
        due("flight 0 while it waits", day.glider(0, 4), 0);
        day.tick(1);
        due("from the landing on", day.glider(0, 4), -1);
    }

    // ---- promise 11

    private static void askNoSuchMemberOrGlider() {
        GliderDay day = club(PILOT, TEACHER);
        for (int bad : new int[] {-1, -2, 2, MIN, MAX}) {
            refused(day, "member " + bad, BOUNDS, () -> day.ask(bad, -1, 0, 0, 5));
        }
        for (int bad : new int[] {-2, 2, MIN, MAX}) {
            refused(day, "second " + bad, BOUNDS, () -> day.ask(0, bad, 0, 0, 5));
        }
        for (int bad : new int[] {-1, 3, MIN, MAX}) {
            refused(day, "glider " + bad, BOUNDS, () -> day.ask(0, -1, bad, 0, 5));
        }
        due("the last of all", day.ask(1, 0, 2, 0, 5), 0);
        due("the first of all", day.ask(0, 1, 0, 0, 5), 1);
        due("no second", day.ask(0, -1, 0, 0, 5), 2);
        GliderDay none = new GliderDay();
        refused(none, "nobody in nothing", BOUNDS, () -> none.ask(0, -1, 0, 0, 5));
        none.addMember(PILOT);
        refused(none, "somebody in nothing", BOUNDS, () -> none.ask(0, -1, 0, 0, 5));
    }

    private static void askTwiceTheSame() {
        GliderDay day = club(PILOT, TEACHER);
        refused(day, "0 with 0", ARGUMENT, () -> day.ask(0, 0, 0, 0, 5));
        refused(day, "1 with 1", ARGUMENT, () -> day.ask(1, 1, 0, 0, 5));
        refused(day, "-1 with -1 is no such member", BOUNDS, () -> day.ask(-1, -1, 0, 0, 5));
        refused(day, "2 with 2 is no such member", BOUNDS, () -> day.ask(2, 2, 0, 0, 5));
    }

    private static void askOnAFullListOrDay() {
        GliderDay day = club(PILOT);
        for (int i = 0; i < 30; i++) {
            day.ask(0, -1, 0, 0, 5);
        }
        refused(day, "on a full list", STATE, () -> day.ask(0, -1, 0, 0, 5));
        refused(day, "a height of 199 is named first", ARGUMENT, () -> day.ask(0, -1, 0, 199, 5));
        refused(day, "minutes of 301 are named first", ARGUMENT, () -> day.ask(0, -1, 0, 0, 301));
        refused(day, "the same twice is named first", ARGUMENT, () -> day.ask(0, 0, 0, 0, 5));
        refused(day, "no such member is named before", BOUNDS, () -> day.ask(1, -1, 0, 199, 1));
        refused(day, "no such second is named before", BOUNDS, () -> day.ask(0, 1, 0, 199, 1));
        refused(day, "no such glider is named before", BOUNDS, () -> day.ask(0, 0, 3, 199, 1));
        for (int i = 30; i < 100; i++) {
            day.drop(i - 1);
            due("its number", day.ask(0, -1, 0, 0, 5), i);
        }
        due("a full list on a full day", day.count(3), 30);
        refused(day, "on a full list and day", STATE, () -> day.ask(0, -1, 0, 0, 5));
        day.drop(0);
        refused(day, "on a full day", STATE, () -> day.ask(0, -1, 0, 0, 5));
        refused(day, "minutes of 1 on a full day", ARGUMENT, () -> day.ask(0, -1, 0, 0, 1));
    }

    // ---- promises 12 and 13

    private static void dropFromAnyPlace() {
        GliderDay day = club(PILOT);
        for (int i = 0; i < 30; i++) {
            day.ask(0, -1, 0, 0, 5);
        }
        due("the last", day.drop(29), 29);
        due("the first", day.drop(0), 0);
        due("the one behind it", day.drop(1), 0);
        due("one in the midst", day.drop(10), 8);
        due("the one behind that", day.drop(11), 8);
        due("the last again", day.drop(28), 24);
        due("those on the list", day.count(3), 24);
        due("the first then", day.list(0), 2);
        due("the last then", day.list(23), 27);
    }

    private static void dropNoSuchFlight() {
        GliderDay none = club(PILOT);
        refused(none, "drop(0) of none", BOUNDS, () -> none.drop(0));
        GliderDay day = club(PILOT);
        day.ask(0, -1, 0, 0, 5);
        day.ask(0, -1, 0, 0, 5);
        for (int bad : new int[] {-1, 2, MIN, MAX}) {
            refused(day, "drop(" + bad + ")", BOUNDS, () -> day.drop(bad));
        }
    }

    private static void dropWhatIsNotOnTheList() {
        GliderDay day = club(PILOT);
        day.ask(0, -1, 0, 500, 2);
        day.ask(0, -1, 0, 500, 2);
        day.drop(1);
        refused(day, "drop what was dropped", STATE, () -> day.drop(1));
        day.tick(1);
        refused(day, "drop what flies", STATE, () -> day.drop(0));
        day.tick(2);
        refused(day, "drop what waits", STATE, () -> day.drop(0));
        day.tick(1);
        refused(day, "drop what landed", STATE, () -> day.drop(0));
    }

    private static void listBeyondItsEnds() {
        GliderDay day = club(PILOT);
        due("place 0 of none", day.list(0), -1);
        refused(day, "place -1 of none", BOUNDS, () -> day.list(-1));
        for (int i = 0; i < 30; i++) {
            day.ask(0, -1, 0, 0, 5);
        }
        due("the first place", day.list(0), 0);
        due("the last place", day.list(29), 29);
        due("behind it", day.list(30), -1);
        due("far behind it", day.list(MAX), -1);
        refused(day, "place -1", BOUNDS, () -> day.list(-1));
        refused(day, "place MIN", BOUNDS, () -> day.list(MIN));
    }

    // ---- promises 14 and 15

    private static void reasonNoSuchFlight() {
        GliderDay none = club(PILOT);
        refused(none, "reason(0) of none", BOUNDS, () -> none.reason(0));
        GliderDay day = club(PILOT);
        day.ask(0, -1, 0, 0, 5);
        for (int bad : new int[] {-1, 1, MIN, MAX}) {
            refused(day, "reason(" + bad + ")", BOUNDS, () -> day.reason(bad));
        }
        due("reason(0)", day.reason(0), 0);
    }

    private static void reasonOfWhatIsNotOnTheList() {
        GliderDay day = club(PILOT);
        day.ask(0, -1, 0, 500, 2);
        day.ask(0, -1, 0, 500, 2);
        day.drop(1);
        refused(day, "of what was dropped", STATE, () -> day.reason(1));
        day.tick(1);
        refused(day, "of what flies", STATE, () -> day.reason(0));
        day.tick(2);
        refused(day, "of what waits", STATE, () -> day.reason(0));
        day.tick(1);
        refused(day, "of what landed", STATE, () -> day.reason(0));
    }

    private static void callNoSuchGlider() {
        GliderDay none = new GliderDay();
        refused(none, "call(0) of none", BOUNDS, () -> none.call(0));
        GliderDay day = club(PILOT);
        for (int bad : new int[] {-1, 3, MIN, MAX}) {
            refused(day, "call(" + bad + ")", BOUNDS, () -> day.call(bad));
        }
    }

    private static void callOnTheGround() {
        GliderDay day = club(PILOT);
        refused(day, "before any flight", STATE, () -> day.call(0));
        day.ask(0, -1, 0, 500, 2);
        refused(day, "before its begin", STATE, () -> day.call(0));
        day.tick(4);
        due("it landed", day.flight(0, 6), 4);
        refused(day, "from the landing on", STATE, () -> day.call(0));
        day.ask(0, -1, 0, 0, 30);
        day.tick(2);
        due("the next flight begins", day.flight(1, 5), 6);
        day.tick(20);
        due("no refused call counts for it", day.glider(0, 0), 1);
    }

    private static void minutesThatItHasFlown() {
        GliderDay day = club(PILOT, PILOT);
        day.ask(0, -1, 0, 0, 300);
        day.tick(1);
        due("in the minute of its begin", day.call(0), 0);
        GliderDay late = club(PILOT);
        late.ask(0, -1, 0, 0, 300);
        late.tick(300);
        due("a minute before it is due", late.call(0), 299);
        GliderDay waits = club(PILOT);
        waits.ask(0, -1, 0, 500, 2);
        waits.tick(3);
        due("it waits", waits.glider(0, 0), 2);
        due("while it waits", waits.call(0), 2);
        waits.tick(1);
        due("it lands as without the call", waits.flight(0, 6), 4);
    }

    // ---- promise 16

    private static void tickIs1To300() {
        GliderDay day = new GliderDay();
        for (int bad : new int[] {0, -1, 301, MIN, MAX}) {
            refused(day, "tick(" + bad + ")", ARGUMENT, () -> day.tick(bad));
        }
        day.tick(1);
        due("after the least", day.now(), 1);
        day.tick(300);
        due("after the most", day.now(), 301);
    }

    private static void tickNotBeyond1500() {
        GliderDay day = new GliderDay();
        for (int i = 0; i < 4; i++) {
            day.tick(300);
        }
        day.tick(150);
        for (int bad : new int[] {151, 300, 301, 0, MAX, MIN}) {
            refused(day, "tick(" + bad + ") at 1350", ARGUMENT, () -> day.tick(bad));
        }
        day.tick(150);
        due("the end", day.now(), 1500);
        for (int bad : new int[] {1, 300, 0, -1, MAX}) {
            refused(day, "tick(" + bad + ") at 1500", ARGUMENT, () -> day.tick(bad));
        }
    }

    private static void howManyBegan() {
        GliderDay day = club(PILOT, PILOT);
        due("of none", day.tick(1), 0);
        day.ask(0, -1, 0, 0, 5);
        day.ask(1, -1, 1, 0, 5);
        due("one at once", day.tick(1), 1);
        due("none in the next", day.tick(1), 0);
        due("one more", day.tick(1), 1);
        due("none is left", day.tick(50), 0);
        for (int i = 0; i < 7; i++) {
            day.ask(0, -1, 0, 500, 2);
        }
        day.drop(2);
        due("those that began and landed", day.tick(300), 6);
    }

    private static void nowFrom0To1500() {
        GliderDay day = new GliderDay();
        due("at first", day.now(), 0);
        for (int i = 1; i <= 5; i++) {
            day.tick(300);
            due("now", day.now(), 300 * i);
        }
    }

    // ---- promise 18

    private static void flightNoSuchFact() {
        GliderDay none = club(PILOT);
        refused(none, "flight(0, 0) of none", BOUNDS, () -> none.flight(0, 0));
        GliderDay day = club(PILOT);
        day.ask(0, -1, 0, 0, 5);
        for (int bad : new int[] {-1, 1, 100, MIN, MAX}) {
            refused(day, "flight(" + bad + ", 0)", BOUNDS, () -> day.flight(bad, 0));
        }
        for (int bad : new int[] {-1, 8, MIN, MAX}) {
            refused(day, "flight(0, " + bad + ")", BOUNDS, () -> day.flight(0, bad));
        }
    }

    private static void flightThroughItsStates() {
        GliderDay day = club(PILOT, PILOT);
        day.ask(0, -1, 1, 500, 2);
        flightFacts(day, 0, 0, 0, -1, 1, 500, -1, -1, 0);
        day.tick(1);
        flightFacts(day, 0, 1, 0, -1, 1, 500, 1, -1, 0);
        day.tick(2);
        flightFacts(day, 0, 1, 0, -1, 1, 500, 1, -1, 0);
        day.tick(1);
        flightFacts(day, 0, 2, 0, -1, 1, 500, 1, 4, 25 + 15);
        day.ask(1, 0, 0, 0, 300);
        day.drop(1);
        flightFacts(day, 1, 3, 1, 0, 0, 0, -1, -1, 0);
    }

    // ---- promises 19 and 20

    private static void countIs0To7() {
        GliderDay day = new GliderDay();
        for (int bad : new int[] {-1, 8, MIN, MAX}) {
            refused(day, "count(" + bad + ")", BOUNDS, () -> day.count(bad));
        }
        counts(day, 0, 0, 0, 0, 0, 0, 2, 1);
    }

    private static void countsOfAFullDay() {
        GliderDay day = sixteenMembers();
        day.setTugs(2);
        for (int i = 0; i < 8; i++) {
            day.addGlider(1, 1, 40);
            day.ask(i, -1, i, 1500, 300);
        }
        day.tick(61);
        counts(day, 16, 8, 8, 0, 8, 0, 2, 0);
        for (int i = 0; i < 62; i++) {
            day.drop(day.ask(0, -1, 0, 0, 5));
        }
        for (int i = 0; i < 30; i++) {
            day.ask(0, -1, 0, 0, 5);
        }
        counts(day, 16, 8, 100, 30, 8, 0, 2, 0);
        day.setSunset(62);
        day.tick(1);
        counts(day, 16, 8, 100, 30, 8, 8, 2, 0);
        day.tick(2);
        counts(day, 16, 8, 100, 30, 7, 7, 2, 0);
        day.tick(16);
        counts(day, 16, 8, 100, 30, 0, 0, 2, 2);
    }

    private static void busyAtTheEndsOfItsMinutes() {
        GliderDay day = club(PILOT);
        due("at first", day.isBusy(), false);
        day.ask(0, -1, 0, 200, 5);
        due("not by asking", day.isBusy(), false);
        day.tick(1);
        due("from the start on", day.isBusy(), true);
        day.tick(2);
        due("in its last minute", day.isBusy(), true);
        day.tick(1);
        due("behind its last minute", day.isBusy(), false);
        day.tick(2);
        due("from the landing on", day.isBusy(), true);
        day.tick(1);
        due("in its last minute", day.isBusy(), true);
        day.tick(1);
        due("behind its last minute", day.isBusy(), false);
    }

    // ---- promises 21 to 23

    private static void billNoSuchMember() {
        GliderDay none = new GliderDay();
        refused(none, "bill(0) of none", BOUNDS, () -> none.bill(0));
        GliderDay day = sixteenMembers();
        for (int bad : new int[] {-1, 16, MIN, MAX}) {
            refused(day, "bill(" + bad + ")", BOUNDS, () -> day.bill(bad));
        }
        due("the last", day.bill(15), 0);
    }

    private static void billOfItsOwnLandedFlights() {
        GliderDay day = club(PILOT, PILOT);
        day.ask(0, 1, 0, 0, 5);
        day.tick(5);
        due("in the air", day.bill(0), 0);
        day.tick(1);
        due("as member", day.bill(0), 8 + 15);
        due("as second", day.bill(1), 0);
        day.ask(1, 0, 0, 200, 5);
        day.tick(10);
        due("its flight as second", day.bill(0), 23);
        due("the other's", day.bill(1), 10 + 15);
    }

    private static void payNoSuchMember() {
        GliderDay none = new GliderDay();
        refused(none, "pay(0, 1) of none", BOUNDS, () -> none.pay(0, 1));
        GliderDay day = club(PILOT);
        for (int bad : new int[] {-1, 1, MIN, MAX}) {
            refused(day, "pay(" + bad + ", 1)", BOUNDS, () -> day.pay(bad, 1));
            refused(day, "pay(" + bad + ", 0)", BOUNDS, () -> day.pay(bad, 0));
            refused(day, "pay(" + bad + ", 100001)", BOUNDS, () -> day.pay(bad, 100001));
        }
    }

    private static void amountIs1To100000() {
        GliderDay day = club(PILOT);
        for (int bad : new int[] {0, -1, 100001, MIN, MAX}) {
            refused(day, "pay(0, " + bad + ")", ARGUMENT, () -> day.pay(0, bad));
        }
        due("the least", day.pay(0, 1), -1);
        due("the most", day.pay(0, 100000), -100001);
        due("the bill", day.bill(0), -100001);
    }

    private static void incomeOfLandedFlights() {
        GliderDay day = club(PILOT, PILOT);
        due("of none", day.income(), 0);
        day.drop(day.ask(0, -1, 0, 0, 5));
        day.ask(0, -1, 0, 0, 5);
        day.ask(1, -1, 1, 0, 50);
        day.tick(5);
        due("of none that landed", day.income(), 0);
        day.tick(5);
        due("of one that landed", day.income(), 8 + 15);
        day.pay(0, 100);
        due("what was paid does not matter", day.income(), 23);
        day.tick(60);
        due("of both", day.income(), 23 + 8 + 250);
    }

    // ---- promises 24 and 25

    private static void longestOfNone() {
        GliderDay day = club(PILOT);
        due("of none", day.longest(), -1);
        day.drop(day.ask(0, -1, 0, 0, 5));
        due("of one that was dropped", day.longest(), -1);
        day.ask(0, -1, 0, 500, 2);
        due("of one on the list", day.longest(), -1);
        day.tick(1);
        due("of one that flies", day.longest(), -1);
        day.tick(2);
        due("of one that waits", day.longest(), -1);
        day.tick(1);
        due("of one that landed", day.longest(), 1);
    }

    private static void longestOfSeveral() {
        GliderDay day = club(PILOT, PILOT);
        for (int minutes : new int[] {9, 10, 11, 11, 10}) {
            day.ask(0, -1, 0, 500, minutes);
            day.tick(30);
        }
        due("the smallest number of the longest", day.longest(), 2);
        GliderDay late = club(PILOT, PILOT);
        late.bar(0, true);
        late.ask(0, -1, 0, 500, 11);
        late.ask(1, -1, 1, 500, 11);
        late.tick(30);
        due("the only one", late.longest(), 1);
        late.bar(0, false);
        late.tick(30);
        due("the smallest number, though it landed later", late.longest(), 0);
    }

    private static void longestByItsRealMinutes() {
        GliderDay day = club(PILOT, PILOT);
        day.ask(0, -1, 0, 500, 300);
        day.tick(5);
        day.call(0);
        day.tick(20);
        due("one that was called", day.longest(), 0);
        day.ask(1, -1, 1, 500, 6);
        day.tick(20);
        due("one of fewer minutes that flew for longer", day.longest(), 1);
    }

    private static void waitedOfNone() {
        GliderDay day = club(PILOT);
        dueMean("of none", day.waited(), 0.0);
        day.ask(0, -1, 0, 0, 5);
        dueMean("of one on the list", day.waited(), 0.0);
        day.setTugs(0);
        day.drop(0);
        day.ask(0, -1, 0, 500, 5);
        day.tick(20);
        dueMean("of one that can not begin", day.waited(), 0.0);
    }

    private static void waitedIsNotCut() {
        GliderDay day = club(PILOT, PILOT, PILOT);
        for (int i = 0; i < 3; i++) {
            day.ask(i, -1, i, 200, 100);
        }
        day.setTugs(2);
        day.tick(1);
        dueMean("of one that flies", day.waited(), 1.0);
        day.tick(3);
        dueMean("of two", day.waited(), 5 / 2.0);
        day.tick(3);
        dueMean("of three", day.waited(), 12 / 3.0);
        day.tick(200);
        dueMean("of three that landed", day.waited(), 12 / 3.0);
        day.ask(0, -1, 0, 0, 5);
        day.ask(1, -1, 1, 0, 5);
        day.drop(4);
        day.ask(1, -1, 1, 0, 5);
        day.tick(3);
        dueMean("of five, and one that was dropped", day.waited(), (12 + 1 + 3) / 5.0);
        day.ask(2, -1, 2, 0, 5);
        day.tick(20);
        dueMean("of six", day.waited(), (16 + 10) / 6.0);
    }

    // ---- promise 26

    private static List<Long> allThatIsTold(GliderDay day) {
        List<Long> all = new ArrayList<>();
        all.add((long) day.now());
        for (int what = 0; what < 8; what++) {
            all.add((long) day.count(what));
        }
        for (int member = 0; member < day.count(0); member++) {
            for (int what = 0; what < 6; what++) {
                all.add((long) day.member(member, what));
            }
            all.add((long) day.bill(member));
        }
        for (int glider = 0; glider < day.count(1); glider++) {
            for (int what = 0; what < 5; what++) {
                all.add((long) day.glider(glider, what));
            }
        }
        for (int flight = 0; flight < day.count(2); flight++) {
            for (int what = 0; what < 8; what++) {
                all.add((long) day.flight(flight, what));
            }
        }
        for (int place = 0; place < day.count(3); place++) {
            all.add((long) day.list(place));
        }
        return all;
    }

    /** The checksum in numbers without an end, and only then as one of 64 bits. */
    private static long wrapped(List<Long> all) {
        BigInteger d = BigInteger.valueOf(317);
        for (long x : all) {
            d = d.multiply(BigInteger.valueOf(31)).add(BigInteger.valueOf(x));
        }
        return d.longValue();
    }

    private static void digestOfNothing() {
        long d = 317;
        for (int x : new int[] {0, 0, 0, 0, 0, 0, 0, 2, 1}) {
            d = d * 31 + x;
        }
        due("the digest", new GliderDay().digest(), d);
    }

    private static void digestWrapsAround() {
        GliderDay day = club(PILOT, TEACHER, STUDENT);
        due("of a club", day.digest(), wrapped(allThatIsTold(day)));
        day.ask(2, 1, 0, 0, 20);
        day.ask(0, -1, 1, 700, 3);
        day.drop(day.ask(0, -1, 2, 300, 9));
        day.ask(1, 0, 1, 300, 300);
        day.bar(2, true);
        due("of a list", day.digest(), wrapped(allThatIsTold(day)));
        day.tick(7);
        due("with one that waits", day.digest(), wrapped(allThatIsTold(day)));
    }

    private static void digestOfNegativeNumbers() {
        GliderDay day = withMembers(PILOT);
        day.pay(0, 100000);
        day.pay(0, 12345);
        due("of a bill below 0", day.digest(), wrapped(allThatIsTold(day)));
        long d = 317;
        for (int x : new int[] {0, 1, 0, 0, 0, 0, 0, 2, 1, PILOT, 0, 0, 0, 0, 0, -112345}) {
            d = d * 31 + x;
        }
        due("the digest", day.digest(), d);
    }

    private static void digestChangesNothing() {
        GliderDay day = club(PILOT);
        day.ask(0, -1, 0, 0, 5);
        day.tick(1);
        long first = day.digest();
        due("the second time", day.digest(), first);
        due("the third time", day.digest(), first);
    }

    private static void promises1To7() {
        test("promise 1, without members and gliders", PromiseBoundaryTests::aNewDayIsEmpty);
        test("promise 1, a day without anything passes", PromiseBoundaryTests::aNewDayPasses);
        test("promise 1, days are apart", PromiseBoundaryTests::daysAreApart);
        test("promise 2, level is 0 to 3", PromiseBoundaryTests::levelIs0To3);
        test("promise 2, there are 16 members", PromiseBoundaryTests::noMemberBehindThe16th);
        test("promise 3, seats, rate and limit", PromiseBoundaryTests::seatsRateAndLimit);
        test("promise 3, there are 8 gliders", PromiseBoundaryTests::noGliderBehindThe8th);
        test("promise 4, wind is 0 to 40", PromiseBoundaryTests::windBefore);
        test("promise 5, time is 0 to 1500", PromiseBoundaryTests::sunsetBefore);
        test("promise 5, a time that has passed", PromiseBoundaryTests::sunsetBeforeNow);
        test("promise 6, tugs are 0 to 2", PromiseBoundaryTests::tugsThatAreFreeThen);
        test("promise 6, more tugs than this are taken", PromiseBoundaryTests::fewerTugsThanAreTaken);
        test("promise 7, no such glider", PromiseBoundaryTests::barNoSuchGlider);
        test("promise 7, not on the ground", PromiseBoundaryTests::barNotOnTheGround);
    }

    private static void promises8To11() {
        test("promise 8, at least 3 lessons", PromiseBoundaryTests::threeLessonsMakeASolo);
        test("promise 8, lessons as second", PromiseBoundaryTests::lessonsAsASecondDoNotCount);
        test("promise 8, at least 5 without a second", PromiseBoundaryTests::fiveSolosMakeAPilot);
        test("promise 8, flights with a second", PromiseBoundaryTests::flightsWithASecondDoNotCount);
        test("promise 8, a PILOT or a TEACHER", PromiseBoundaryTests::noOtherLevelRises);
        test("promise 8, it flies", PromiseBoundaryTests::promoteNotInTheAir);
        test("promise 8, no such member", PromiseBoundaryTests::promoteNoSuchMember);
        test("promise 9, no such member or fact", PromiseBoundaryTests::memberNoSuchFact);
        test("promise 9, as member or second member", PromiseBoundaryTests::memberCountsAsMemberOrSecond);
        test("promise 10, no such glider or fact", PromiseBoundaryTests::gliderNoSuchFact);
        test("promise 10, 1 if it is barred, else 0", PromiseBoundaryTests::barredIs1ElseIs0);
        test("promise 10, -1 if it is on the ground", PromiseBoundaryTests::theFlightThatItMakes);
        test("promise 11, no such member or glider", PromiseBoundaryTests::askNoSuchMemberOrGlider);
        test("promise 11, member and second are the same", PromiseBoundaryTests::askTwiceTheSame);
        test("promise 11, 30 on the list, or 100", PromiseBoundaryTests::askOnAFullListOrDay);
    }

    private static void promises12To17() {
        test("promise 12, its place", PromiseBoundaryTests::dropFromAnyPlace);
        test("promise 12, no such flight", PromiseBoundaryTests::dropNoSuchFlight);
        test("promise 12, not on the list", PromiseBoundaryTests::dropWhatIsNotOnTheList);
        test("promise 13, -1 if there is none", PromiseBoundaryTests::listBeyondItsEnds);
        test("promise 14, no such flight", PromiseBoundaryTests::reasonNoSuchFlight);
        test("promise 14, not on the list", PromiseBoundaryTests::reasonOfWhatIsNotOnTheList);
        test("promise 15, no such glider", PromiseBoundaryTests::callNoSuchGlider);
        test("promise 15, on the ground", PromiseBoundaryTests::callOnTheGround);
        test("promise 15, minutes so far", PromiseBoundaryTests::minutesThatItHasFlown);
        test("promise 16, 1 to 300", PromiseBoundaryTests::tickIs1To300);
        test("promise 16, not beyond 1500", PromiseBoundaryTests::tickNotBeyond1500);
        test("promise 16, how many began", PromiseBoundaryTests::howManyBegan);
        test("promise 17, now", PromiseBoundaryTests::nowFrom0To1500);
    }

    private static void promises18To26() {
        test("promise 18, no such flight or fact", PromiseBoundaryTests::flightNoSuchFact);
        test("promise 18, through its states", PromiseBoundaryTests::flightThroughItsStates);
        test("promise 19, what is 0 to 7", PromiseBoundaryTests::countIs0To7);
        test("promise 19, a full day", PromiseBoundaryTests::countsOfAFullDay);
        test("promise 20, the ends of its minutes", PromiseBoundaryTests::busyAtTheEndsOfItsMinutes);
        test("promise 21, no such member", PromiseBoundaryTests::billNoSuchMember);
        test("promise 21, as member and landed from", PromiseBoundaryTests::billOfItsOwnLandedFlights);
        test("promise 22, no such member", PromiseBoundaryTests::payNoSuchMember);
        test("promise 22, 1 to 100000", PromiseBoundaryTests::amountIs1To100000);
        test("promise 23, flights that landed", PromiseBoundaryTests::incomeOfLandedFlights);
        test("promise 24, -1 if there is none", PromiseBoundaryTests::longestOfNone);
        test("promise 24, of several the smallest number", PromiseBoundaryTests::longestOfSeveral);
        test("promise 24, by the minutes flown", PromiseBoundaryTests::longestByItsRealMinutes);
        test("promise 25, 0 if there are none", PromiseBoundaryTests::waitedOfNone);
        test("promise 25, a mean that is not cut", PromiseBoundaryTests::waitedIsNotCut);
        test("promise 26, starts with 317", PromiseBoundaryTests::digestOfNothing);
        test("promise 26, wraps around", PromiseBoundaryTests::digestWrapsAround);
        test("promise 26, of negative numbers", PromiseBoundaryTests::digestOfNegativeNumbers);
        test("promise 26, changes nothing", PromiseBoundaryTests::digestChangesNothing);
    }

    public static void main(String[] args) {
        promises1To7();
        promises8To11();
        promises12To17();
        promises18To26();
        finish();
    }
}
