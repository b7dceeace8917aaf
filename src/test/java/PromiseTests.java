import java.lang.reflect.Constructor;
import java.lang.reflect.Field;
import java.lang.reflect.Method;
import java.lang.reflect.Modifier;
import java.util.Arrays;
import java.util.TreeSet;

/** One test for each promise of the document, and one for the whole face. */
public final class PromiseTests extends Checks {
    private static void newObject() {
        GliderDay day = new GliderDay();
        counts(day, 0, 0, 0, 0, 0, 0, 2, 1);
        due("now", day.now(), 0);
        due("isBusy", day.isBusy(), false);
        due("income", day.income(), 0);
        due("longest", day.longest(), -1);
        dueMean("waited", day.waited(), 0.0);
        due("list(0)", day.list(0), -1);
        due("the wind at first", day.setWind(3), 10);
        due("sunset at first", day.setSunset(3), 600);
        refused(day, "member of nobody", BOUNDS, () -> day.member(0, 0));
        refused(day, "glider of none", BOUNDS, () -> day.glider(0, 0));
        refused(day, "flight of none", BOUNDS, () -> day.flight(0, 0));
        GliderDay other = new GliderDay();
        other.addMember(PILOT);
        due("a day beside another", day.count(0), 0);
    }

    private static void addMember() {
        GliderDay day = new GliderDay();
        for (int bad : new int[] {-1, 4, MIN, MAX}) {
            refused(day, "addMember(" + bad + ")", ARGUMENT, () -> day.addMember(bad));
        }
        for (int i = 0; i < 16; i++) {
            due("addMember", day.addMember(i % 4), i);
            memberFacts(day, i, i % 4, 0, 0, 0, 0, 0);
            due("bill", day.bill(i), 0);
        }
        due("members", day.count(0), 16);
        refused(day, "a seventeenth", STATE, () -> day.addMember(0));
        refused(day, "a seventeenth of no level", ARGUMENT, () -> day.addMember(4));
    }

    private static void addGlider() {
        GliderDay day = new GliderDay();
        int[][] bad = {{0, 1, 5}, {3, 1, 5}, {1, 0, 5}, {1, 51, 5}, {1, 1, 4}, {1, 1, 41},
            {MIN, 1, 5}, {1, MAX, 5}, {1, 1, MIN}, {-1, 10, 10}, {2, -1, 10}, {2, 10, -1}};
        for (int[] b : bad) {
            refused(day, "addGlider" + Arrays.toString(b), ARGUMENT, () -> day.addGlider(b[0], b[1], b[2]));
        }
        int[][] good = {{1, 1, 5}, {2, 50, 40}, {1, 50, 5}, {2, 1, 40}, {1, 7, 20}, {2, 8, 21}, {1, 9, 22}, {2, 10, 23}};
        for (int i = 0; i < good.length; i++) {
            due("addGlider", day.addGlider(good[i][0], good[i][1], good[i][2]), i);
            gliderFacts(day, i, 0, 0, 0, 0, -1);
        }
        due("gliders", day.count(1), 8);
        refused(day, "a ninth", STATE, () -> day.addGlider(1, 1, 5));
        refused(day, "a ninth of no seats", ARGUMENT, () -> day.addGlider(0, 1, 5));
    }

    private static void setWind() {
        GliderDay day = withMembers(PILOT, TEACHER, SOLO);
        day.addGlider(2, 1, 40);
        day.addGlider(2, 1, 11);
        due("setWind(0)", day.setWind(0), 10);
        due("setWind(40)", day.setWind(40), 0);
        for (int bad : new int[] {-1, 41, MIN, MAX}) {
            refused(day, "setWind(" + bad + ")", ARGUMENT, () -> day.setWind(bad));
        }
        due("setWind(25)", day.setWind(25), 40);
        int[] flights = {day.ask(0, -1, 0, 0, 10), day.ask(1, -1, 0, 0, 10), day.ask(2, 1, 0, 0, 10),
            day.ask(0, 1, 0, 0, 10), day.ask(1, 0, 0, 0, 10), day.ask(1, -1, 1, 0, 10)};
        int[][] want = {{25, 0, 0, 0, 0, 0, 5}, {26, 5, 0, 0, 0, 0, 5}, {30, 5, 0, 0, 0, 0, 5},
            {31, 5, 5, 5, 5, 5, 5}, {11, 0, 0, 0, 0, 0, 0}, {12, 0, 0, 0, 0, 0, 5}};
        for (int[] row : want) {
            day.setWind(row[0]);
            for (int i = 0; i < flights.length; i++) {
                due("reason " + i + " in wind " + row[0], day.reason(flights[i]), row[i + 1]);
            }
        }
    }

    private static void setSunset() {
        GliderDay day = club(PILOT, PILOT);
        due("setSunset(0)", day.setSunset(0), 600);
        due("setSunset(1500)", day.setSunset(1500), 0);
        for (int bad : new int[] {-1, 1501, MIN, MAX}) {
            refused(day, "setSunset(" + bad + ")", ARGUMENT, () -> day.setSunset(bad));
        }
        int flight = day.ask(0, -1, 0, 0, 100);
        due("setSunset(9)", day.setSunset(9), 1500);
        due("9 minutes to sunset", day.reason(flight), 6);
        due("setSunset(10)", day.setSunset(10), 9);
        due("10 minutes to sunset", day.reason(flight), 0);
        due("none begins 9 minutes before", day.tick(1), 0);
        due("setSunset(12)", day.setSunset(12), 10);
        due("it begins 10 minutes before", day.tick(1), 1);
        due("until sunset", day.tick(9), 0);
        due("it still flies", day.glider(0, 0), 1);
        day.tick(1);
        due("it lands at sunset", day.flight(flight, 6), 12);
        due("setSunset into the past", day.setSunset(5), 12);
        due("no start by night", day.reason(day.ask(0, -1, 0, 0, 5)), 6);
    }

    private static void setTugs() {
        GliderDay day = club(PILOT, PILOT, PILOT);
        for (int bad : new int[] {-1, 3, MIN, MAX}) {
            refused(day, "setTugs(" + bad + ")", ARGUMENT, () -> day.setTugs(bad));
        }
        due("setTugs(2)", day.setTugs(2), 2);
        due("setTugs(0)", day.setTugs(0), 0);
        int first = day.ask(0, -1, 0, 1500, 100);
        int second = day.ask(1, -1, 1, 1400, 100);
        due("no tug", day.reason(first), 7);
        due("setTugs(1)", day.setTugs(1), 1);
        due("a tug", day.reason(first), 0);
        day.tick(1);
        due("the tug is taken", day.count(7), 0);
        refused(day, "setTugs(0) with one taken", STATE, () -> day.setTugs(0));
        refused(day, "setTugs(-1) with one taken", ARGUMENT, () -> day.setTugs(-1));
        due("setTugs(1) with one taken", day.setTugs(1), 0);
        due("setTugs(2) with one taken", day.setTugs(2), 1);
        due("the second starts at 4", day.tick(3), 1);
        due("its begin", day.flight(second, 5), 4);
        refused(day, "setTugs(1) with two taken", STATE, () -> day.setTugs(1));
        due("setTugs(2) with two taken", day.setTugs(2), 0);
        due("to 19", day.tick(15), 0);
        due("both are away at 19", day.count(7), 0);
        day.tick(1);
        due("the first is back 19 minutes after 1", day.count(7), 1);
        due("setTugs(1) then", day.setTugs(1), 0);
        day.tick(1);
        due("at 21", day.count(7), 0);
        day.tick(1);
        due("the second is back 18 minutes after 4", day.count(7), 1);
    }

    private static void bar() {
        GliderDay day = club(PILOT, PILOT);
        for (int bad : new int[] {-1, 3, MIN, MAX}) {
            refused(day, "bar(" + bad + ")", BOUNDS, () -> day.bar(bad, true));
        }
        int flight = day.ask(0, -1, 0, 0, 5);
        due("bar", day.bar(0, true), false);
        due("bar again", day.bar(0, true), true);
        due("that it is barred", day.glider(0, 1), 1);
        due("that another is not", day.glider(1, 1), 0);
        due("reason", day.reason(flight), 2);
        due("none starts", day.tick(3), 0);
        due("unbar", day.bar(0, false), true);
        due("unbar again", day.bar(0, false), false);
        due("that it is not barred", day.glider(0, 1), 0);
        due("it starts", day.tick(1), 1);
        refused(day, "bar what flies", STATE, () -> day.bar(0, true));
        refused(day, "unbar what flies", STATE, () -> day.bar(0, false));
        day.ask(1, -1, 1, 0, 2);
        day.tick(2);
        due("the second flies", day.glider(1, 0), 1);
        day.call(0);
        day.call(1);
        day.tick(1);
        due("one waits", day.glider(0, 0), 2);
        refused(day, "bar what waits", STATE, () -> day.bar(0, true));
        day.tick(1);
        due("bar what landed", day.bar(0, true), false);
    }

    private static void promote() {
        GliderDay day = club(STUDENT, TEACHER, PILOT, SOLO);
        for (int bad : new int[] {-1, 4, MIN, MAX}) {
            refused(day, "promote(" + bad + ")", BOUNDS, () -> day.promote(bad));
        }
        for (int member = 0; member < 4; member++) {
            int m = member;
            refused(day, "promote too early " + m, STATE, () -> day.promote(m));
        }
        lessons(day, 0, 1, 2);
        refused(day, "promote after 2", STATE, () -> day.promote(0));
        day.ask(0, 1, 0, 0, 2);
        day.ask(0, 1, 0, 0, 2);
        day.tick(10);
        due("two more", day.tick(20), 0);
        due("lessons", day.member(0, 4), 4);
        day.ask(0, 1, 0, 0, 30);
        day.tick(10);
        due("it flies", day.member(0, 1), 1);
        refused(day, "promote in the air", STATE, () -> day.promote(0));
        day.tick(50);
        due("promote", day.promote(0), SOLO);
        due("its level", day.member(0, 0), SOLO);
        refused(day, "promote again", STATE, () -> day.promote(0));
        lessons(day, 0, 1, 2);
        refused(day, "seven lessons make no PILOT", STATE, () -> day.promote(0));
        solos(day, 0, 4);
        refused(day, "promote after 4", STATE, () -> day.promote(0));
        solos(day, 0, 1);
        due("promote to PILOT", day.promote(0), PILOT);
        refused(day, "promote a PILOT", STATE, () -> day.promote(0));
        solos(day, 2, 6);
        refused(day, "promote a PILOT with six", STATE, () -> day.promote(2));
        solos(day, 1, 6);
        refused(day, "promote a TEACHER with six", STATE, () -> day.promote(1));
        GliderDay exact = club(STUDENT, TEACHER);
        lessons(exact, 0, 1, 3);
        due("promote after just 3", exact.promote(0), SOLO);
    }

    private static void member() {
        GliderDay day = club(STUDENT, TEACHER, PILOT, PILOT);
        for (int bad : new int[] {-1, 4, MIN, MAX}) {
            refused(day, "member(" + bad + ", 0)", BOUNDS, () -> day.member(bad, 0));
        }
        for (int bad : new int[] {-1, 6, MIN, MAX}) {
            refused(day, "member(0, " + bad + ")", BOUNDS, () -> day.member(0, bad));
        }
        day.ask(0, 1, 0, 0, 5);
        day.tick(1);
        memberFacts(day, 0, STUDENT, 1, 0, 0, 0, 0);
        memberFacts(day, 1, TEACHER, 1, 0, 0, 0, 0);
        memberFacts(day, 2, PILOT, 0, 0, 0, 0, 0);
        day.tick(4);
        memberFacts(day, 0, STUDENT, 1, 0, 0, 0, 0);
        day.tick(1);
        memberFacts(day, 0, STUDENT, 0, 1, 5, 1, 0);
        memberFacts(day, 1, TEACHER, 0, 1, 5, 0, 0);
        day.ask(2, 3, 1, 600, 7);
        day.tick(12);
        memberFacts(day, 2, PILOT, 0, 1, 7, 0, 0);
        memberFacts(day, 3, PILOT, 0, 1, 7, 0, 0);
        day.ask(2, -1, 2, 600, 8);
        day.tick(20);
        memberFacts(day, 2, PILOT, 0, 2, 15, 0, 1);
        day.ask(1, 2, 0, 600, 9);
        day.tick(20);
        memberFacts(day, 1, TEACHER, 0, 2, 14, 0, 0);
        memberFacts(day, 2, PILOT, 0, 3, 24, 0, 1);
        day.ask(2, 1, 0, 600, 200);
        day.tick(220);
        memberFacts(day, 1, TEACHER, 0, 3, 214, 0, 0);
        memberFacts(day, 2, PILOT, 0, 4, 224, 1, 1);
    }

    private static void glider() {
        GliderDay day = club(PILOT, PILOT, PILOT);
        for (int bad : new int[] {-1, 3, MIN, MAX}) {
            refused(day, "glider(" + bad + ", 0)", BOUNDS, () -> day.glider(bad, 0));
        }
        for (int bad : new int[] {-1, 5, MIN, MAX}) {
            refused(day, "glider(0, " + bad + ")", BOUNDS, () -> day.glider(0, bad));
        }
        day.drop(day.ask(2, -1, 0, 0, 9));
        day.ask(0, -1, 0, 0, 6);
        day.ask(1, -1, 1, 0, 4);
        day.tick(6);
        gliderFacts(day, 0, 1, 0, 0, 0, 1);
        gliderFacts(day, 1, 1, 0, 0, 0, 2);
        gliderFacts(day, 2, 0, 0, 0, 0, -1);
        day.tick(1);
        gliderFacts(day, 0, 0, 0, 1, 6, -1);
        gliderFacts(day, 1, 2, 0, 0, 0, 2);
        day.tick(2);
        gliderFacts(day, 1, 0, 0, 1, 6, -1);
        day.ask(2, -1, 0, 200, 200);
        day.tick(250);
        gliderFacts(day, 0, 0, 0, 2, 206, -1);
    }

    private static void ask() {
        GliderDay day = club(PILOT, TEACHER);
        int[][] outside = {{-1, -1, 0, 0, 10}, {2, -1, 0, 0, 10}, {0, 2, 0, 0, 10}, {0, -2, 0, 0, 10},
            {0, -1, -1, 0, 10}, {0, -1, 3, 0, 10}, {MAX, -1, 0, 0, 10}, {0, MIN, 0, 0, 10}, {0, -1, MAX, 0, 10},
            {2, 2, 0, 0, 10}, {0, 0, 3, 0, 10}, {-1, -1, 0, 1, 1}, {0, 7, 0, 1, 1}};
        for (int[] a : outside) {
            refused(day, "ask" + Arrays.toString(a), BOUNDS, () -> day.ask(a[0], a[1], a[2], a[3], a[4]));
        }
        int[][] unfit = {{0, 0, 0, 0, 10}, {1, 1, 0, 0, 10}, {0, -1, 0, 199, 10}, {0, -1, 0, 1501, 10}, {0, -1, 0, 1, 10},
            {0, -1, 0, -1, 10}, {0, -1, 0, MIN, 10}, {0, -1, 0, MAX, 10}, {0, -1, 0, 0, 1}, {0, -1, 0, 0, 301},
            {0, -1, 0, 0, MIN}, {0, -1, 0, 0, MAX}, {0, -1, 0, 0, 0}};
        for (int[] a : unfit) {
            refused(day, "ask" + Arrays.toString(a), ARGUMENT, () -> day.ask(a[0], a[1], a[2], a[3], a[4]));
        }
        due("ask", day.ask(0, -1, 0, 0, 2), 0);
        due("ask", day.ask(0, 1, 1, 200, 300), 1);
        due("ask", day.ask(1, 0, 2, 1500, 10), 2);
        flightFacts(day, 0, 0, 0, -1, 0, 0, -1, -1, 0);
        flightFacts(day, 1, 0, 0, 1, 1, 200, -1, -1, 0);
        flightFacts(day, 2, 0, 1, 0, 2, 1500, -1, -1, 0);
        for (int i = 3; i < 30; i++) {
            due("ask", day.ask(0, -1, 0, 0, 10), i);
        }
        refused(day, "a thirty-first", STATE, () -> day.ask(0, -1, 0, 0, 10));
        refused(day, "a thirty-first of one minute", ARGUMENT, () -> day.ask(0, -1, 0, 0, 1));
        refused(day, "a thirty-first of nobody", BOUNDS, () -> day.ask(9, -1, 0, 0, 1));
        for (int i = 30; i < 100; i++) {
            day.drop(i - 30);
            due("ask", day.ask(0, -1, 0, 0, 10), i);
        }
        day.drop(99);
        day.drop(98);
        refused(day, "the hundred and first", STATE, () -> day.ask(0, -1, 0, 0, 10));
        refused(day, "the hundred and first too low", ARGUMENT, () -> day.ask(0, -1, 0, 5, 10));
        counts(day, 2, 3, 100, 28, 0, 0, 2, 1);
    }

    private static void drop() {
        GliderDay day = club(PILOT, PILOT);
        for (int i = 0; i < 4; i++) {
            day.ask(i % 2, -1, i % 2, 0, 5);
        }
        for (int bad : new int[] {-1, 4, MIN, MAX}) {
            refused(day, "drop(" + bad + ")", BOUNDS, () -> day.drop(bad));
        }
        due("drop(2)", day.drop(2), 2);
        listIs(day, 0, 1, 3);
        flightFacts(day, 2, 3, 0, -1, 0, 0, -1, -1, 0);
        refused(day, "drop(2) again", STATE, () -> day.drop(2));
        due("drop(3)", day.drop(3), 2);
        due("drop(0)", day.drop(0), 0);
        listIs(day, 1);
        due("flight 1 starts", day.tick(1), 1);
        refused(day, "drop what flies", STATE, () -> day.drop(1));
        day.tick(20);
        refused(day, "drop what landed", STATE, () -> day.drop(1));
        due("asked for", day.count(2), 4);
        due("on the list", day.count(3), 0);
    }

    private static void list() {
        GliderDay day = club(PILOT, PILOT);
        listIs(day);
        day.ask(0, -1, 0, 0, 50);
        day.ask(0, -1, 1, 0, 50);
        day.ask(1, -1, 1, 0, 50);
        listIs(day, 0, 1, 2);
        due("list(MAX)", day.list(MAX), -1);
        refused(day, "list(-1)", BOUNDS, () -> day.list(-1));
        refused(day, "list(MIN)", BOUNDS, () -> day.list(MIN));
        day.tick(1);
        listIs(day, 1, 2);
        day.tick(2);
        listIs(day, 1);
        day.ask(0, -1, 0, 0, 50);
        listIs(day, 1, 3);
    }

    private static void reasonsAre(GliderDay day, int[] flights, int... want) {
        for (int i = 0; i < flights.length; i++) {
            if (want[i] >= 0) {
                due("reason(" + flights[i] + ")", day.reason(flights[i]), want[i]);
            }
        }
    }

    private static void reason() {
        GliderDay day = club(PILOT, STUDENT, SOLO, TEACHER);
        int[] flights = {day.ask(0, -1, 0, 0, 50), day.ask(0, -1, 1, 0, 9), day.ask(3, 0, 1, 0, 9),
            day.ask(3, -1, 0, 0, 9), day.ask(2, 3, 2, 0, 9), day.ask(2, -1, 2, 0, 9), day.ask(1, 2, 1, 0, 9),
            day.ask(1, 3, 1, 0, 9), day.ask(3, 1, 1, 0, 9), day.ask(2, 3, 1, 0, 9)};
        for (int bad : new int[] {-1, 10, MIN, MAX}) {
            refused(day, "reason(" + bad + ")", BOUNDS, () -> day.reason(bad));
        }
        reasonsAre(day, flights, 0, 0, 0, 0, 3, 4, 4, 0, 0, 0);
        day.bar(2, true);
        due("barred comes before seats", day.reason(4), 2);
        due("barred comes before teaching", day.reason(5), 2);
        day.bar(2, false);
        day.setWind(40);
        due("seats come before wind", day.reason(4), 3);
        due("teaching comes before wind", day.reason(5), 4);
        due("wind", day.reason(0), 5);
        day.setSunset(5);
        due("wind comes before night", day.reason(0), 5);
        day.setWind(10);
        due("night", day.reason(0), 6);
        due("teaching comes before night", day.reason(6), 4);
        day.setSunset(600);
        day.tick(1);
        refused(day, "reason of what flies", STATE, () -> day.reason(0));
        reasonsAre(day, flights, -1, 1, 1, 2, 3, 4, 4, 8, 8, 8);
        day.bar(1, true);
        due("who flies comes before what is barred", day.reason(1), 1);
        day.bar(1, false);
        day.setTugs(0);
        int tugged = day.ask(3, -1, 1, 500, 9);
        due("no tug comes before a busy field", day.reason(tugged), 7);
        day.setSunset(5);
        due("night comes before no tug", day.reason(tugged), 6);
        day.setSunset(600);
        day.setTugs(1);
        due("a busy field", day.reason(tugged), 8);
        day.drop(tugged);
        refused(day, "reason of what was dropped", STATE, () -> day.reason(tugged));
        GliderDay cables = club(PILOT, PILOT, PILOT);
        cables.ask(0, -1, 0, 0, 50);
        cables.ask(1, -1, 1, 0, 50);
        cables.ask(2, -1, 2, 0, 50);
        cables.tick(1);
        due("a cable and a busy field", cables.reason(1), 8);
        cables.tick(2);
        due("no cable and a busy field", cables.reason(2), 7);
        cables.tick(9);
        due("no cable", cables.reason(2), 7);
        due("cables again", cables.tick(1), 1);
        soloReasons();
    }

    private static void soloReasons() {
        GliderDay day = club(SOLO, TEACHER, PILOT, STUDENT);
        int alone = day.ask(0, -1, 2, 600, 5);
        int withPilot = day.ask(0, 2, 0, 600, 5);
        due("a SOLO alone", day.reason(alone), 4);
        due("a SOLO with a PILOT", day.reason(withPilot), 4);
        int taught = day.ask(0, 1, 0, 600, 5);
        due("a SOLO with a TEACHER", day.reason(taught), 0);
        day.tick(1);
        due("while it learns", day.flight(taught, 0), 1);
        due("before the landing", day.reason(alone), 1);
        day.drop(alone);
        day.drop(withPilot);
        day.tick(20);
        int free = day.ask(0, -1, 2, 600, 5);
        int freeWithPilot = day.ask(0, 2, 0, 600, 5);
        int byStudent = day.ask(0, 3, 0, 600, 5);
        due("a SOLO after its lesson", day.reason(free), 0);
        due("with a PILOT after its lesson", day.reason(freeWithPilot), 0);
        due("with a STUDENT after its lesson", day.reason(byStudent), 0);
        day.setWind(13);
        due("a SOLO in wind", day.reason(free), 5);
        due("a PILOT as second is no commander", day.reason(freeWithPilot), 5);
        day.setWind(12);
        due("a SOLO in less wind", day.reason(free), 0);
        int student = day.ask(3, 2, 0, 600, 5);
        due("a STUDENT with a PILOT", day.reason(student), 4);
        day.setWind(0);
        due("a STUDENT with a PILOT without wind", day.reason(student), 4);
    }

    private static void call() {
        GliderDay day = club(PILOT, PILOT);
        for (int bad : new int[] {-1, 3, MIN, MAX}) {
            refused(day, "call(" + bad + ")", BOUNDS, () -> day.call(bad));
        }
        refused(day, "call on the ground", STATE, () -> day.call(0));
        day.ask(0, -1, 0, 0, 300);
        day.tick(1);
        due("call at once", day.call(0), 0);
        due("it does not wait yet", day.glider(0, 0), 1);
        day.tick(1);
        due("it waits while the field is busy", day.glider(0, 0), 2);
        due("call while it waits", day.call(0), 1);
        day.tick(1);
        flightFacts(day, 0, 2, 0, -1, 0, 0, 1, 3, 8 + 2 * 3);
        refused(day, "call after the landing", STATE, () -> day.call(0));
        day.ask(0, -1, 0, 500, 20);
        due("the next flight", day.tick(12), 1);
        due("an old call does not count", day.glider(0, 0), 1);
        due("call after a while", day.call(0), 10);
        day.tick(1);
        due("its landing", day.flight(1, 6), 16);
    }

    private static void tick() {
        GliderDay empty = new GliderDay();
        for (int bad : new int[] {0, -1, 301, MIN, MAX}) {
            refused(empty, "tick(" + bad + ")", ARGUMENT, () -> empty.tick(bad));
        }
        for (int i = 1; i <= 4; i++) {
            due("tick(300)", empty.tick(300), 0);
        }
        empty.tick(299);
        refused(empty, "tick beyond 1500", ARGUMENT, () -> empty.tick(2));
        due("the last minute", empty.tick(1), 0);
        due("the end", empty.now(), 1500);
        refused(empty, "tick at the end", ARGUMENT, () -> empty.tick(1));
        cablesComeBack();
        tugsComeBack();
        theFirstThatCanBegins();
        glidersLandInOrder();
        sunsetBringsAllDown();
        landingComesBeforeStart();
    }

    private static void cablesComeBack() {
        GliderDay day = club(PILOT, PILOT, PILOT);
        day.ask(0, -1, 0, 0, 100);
        day.tick(60);
        due("one taken cable stays away", day.count(6), 1);
        day.ask(1, -1, 1, 0, 100);
        day.ask(2, -1, 2, 0, 100);
        due("the second cable", day.tick(1), 1);
        due("no cable is free", day.count(6), 0);
        due("for ten minutes", day.tick(9), 0);
        due("still none", day.count(6), 0);
        due("ten minutes after the second", day.tick(1), 1);
        due("one of two again", day.count(6), 1);
        due("its begin", day.flight(2, 5), 71);
    }

    private static void tugsComeBack() {
        GliderDay day = club(PILOT, PILOT, PILOT);
        day.ask(0, -1, 0, 299, 100);
        day.ask(1, -1, 1, 200, 100);
        due("the first tug start", day.tick(1), 1);
        due("no tug", day.count(7), 0);
        due("field is busy", day.isBusy(), true);
        day.tick(2);
        due("busy for three minutes", day.isBusy(), true);
        day.tick(1);
        due("free after three", day.isBusy(), false);
        due("the tug is away", day.tick(2), 0);
        due("4 + 299 / 100 minutes", day.tick(1), 1);
        due("the second begins at 7", day.flight(1, 5), 7);
    }

    private static void theFirstThatCanBegins() {
        GliderDay day = club(PILOT, PILOT, STUDENT);
        day.ask(2, -1, 0, 0, 100);
        day.ask(0, -1, 0, 0, 100);
        day.ask(0, -1, 1, 0, 100);
        day.ask(1, -1, 1, 200, 100);
        due("one in a minute", day.tick(1), 1);
        due("the first that can", day.flight(1, 0), 1);
        due("busy", day.tick(1), 0);
        due("the next that can", day.tick(1), 1);
        due("it is flight 3", day.flight(3, 5), 3);
        listIs(day, 0, 2);
        GliderDay two = club(PILOT, PILOT, PILOT);
        for (int i = 0; i < 3; i++) {
            two.ask(i, -1, i, i == 1 ? 600 : 0, 200);
        }
        due("all three", two.tick(6), 3);
        due("first", two.flight(0, 5), 1);
        due("second", two.flight(1, 5), 3);
        due("third", two.flight(2, 5), 6);
    }

    private static void glidersLandInOrder() {
        GliderDay day = club(PILOT, PILOT, PILOT);
        day.ask(0, -1, 2, 0, 50);
        day.ask(1, -1, 1, 0, 50);
        day.ask(2, -1, 0, 500, 50);
        due("all fly", day.tick(5), 3);
        day.tick(3);
        day.call(0);
        day.call(2);
        day.tick(1);
        due("of the same minute the smaller lands", day.glider(0, 0), 0);
        due("the greater waits", day.glider(2, 0), 2);
        due("those that wait", day.count(5), 1);
        due("those that fly", day.count(4), 2);
        day.call(1);
        day.tick(1);
        due("two wait", day.count(5), 2);
        due("none lands while the field is busy", day.count(4), 2);
        day.tick(1);
        due("the one that waited longer lands", day.flight(0, 6), 11);
        due("the smaller number still waits", day.glider(1, 0), 2);
        day.tick(1);
        due("busy again", day.glider(1, 0), 2);
        day.tick(1);
        due("the last", day.flight(1, 6), 13);
    }

    private static void sunsetBringsAllDown() {
        GliderDay day = club(PILOT, PILOT, PILOT);
        day.ask(0, -1, 2, 0, 300);
        day.ask(1, -1, 1, 0, 300);
        day.ask(2, -1, 0, 500, 300);
        day.tick(20);
        day.setSunset(30);
        day.tick(9);
        due("none waits before", day.count(5), 0);
        day.tick(1);
        due("two wait at sunset, one landed", day.count(5), 2);
        due("the first by number", day.flight(2, 6), 30);
        day.setSunset(600);
        day.tick(4);
        due("who waits goes on waiting", day.flight(1, 6), 32);
        due("and lands", day.flight(0, 6), 34);
    }

    private static void landingComesBeforeStart() {
        GliderDay day = club(PILOT, PILOT);
        day.ask(0, -1, 0, 0, 5);
        day.tick(5);
        day.ask(1, -1, 1, 0, 5);
        day.ask(0, -1, 0, 200, 5);
        day.drop(1);
        due("the landing keeps the field", day.tick(1), 0);
        due("it landed", day.flight(0, 6), 6);
        due("busy after the landing", day.isBusy(), true);
        due("busy for two minutes", day.tick(1), 0);
        due("then the start, with the glider that landed", day.tick(1), 1);
        due("its begin", day.flight(2, 5), 8);
    }

    private static void now() {
        GliderDay day = new GliderDay();
        due("now", day.now(), 0);
        day.tick(1);
        due("now", day.now(), 1);
        day.tick(300);
        due("now", day.now(), 301);
        day.addMember(0);
        day.setSunset(900);
        due("only tick moves it", day.now(), 301);
    }

    private static void flight() {
        GliderDay day = club(PILOT, TEACHER, PILOT);
        day.ask(0, 1, 1, 0, 10);
        for (int bad : new int[] {-1, 1, MIN, MAX}) {
            refused(day, "flight(" + bad + ", 0)", BOUNDS, () -> day.flight(bad, 0));
        }
        for (int bad : new int[] {-1, 8, MIN, MAX}) {
            refused(day, "flight(0, " + bad + ")", BOUNDS, () -> day.flight(0, bad));
        }
        flightFacts(day, 0, 0, 0, 1, 1, 0, -1, -1, 0);
        day.tick(4);
        flightFacts(day, 0, 1, 0, 1, 1, 0, 1, -1, 0);
        day.tick(7);
        flightFacts(day, 0, 2, 0, 1, 1, 0, 1, 11, 8 + 10 * 5);
        day.ask(2, -1, 2, 219, 180);
        day.tick(200);
        flightFacts(day, 1, 2, 2, -1, 2, 219, 13, 193, 10 + 180 * 7);
        day.ask(2, -1, 2, 1500, 181);
        day.tick(200);
        flightFacts(day, 2, 2, 2, -1, 2, 1500, 212, 393, 75 + 180 * 7);
        day.drop(day.ask(2, 0, 0, 0, 9));
        flightFacts(day, 3, 3, 2, 0, 0, 0, -1, -1, 0);
        day.ask(0, -1, 0, 239, 179);
        day.tick(190);
        flightFacts(day, 4, 2, 0, -1, 0, 239, 412, 591, 11 + 179 * 3);
    }

    private static void count() {
        GliderDay day = club(PILOT, PILOT, PILOT, SOLO);
        for (int bad : new int[] {-1, 8, MIN, MAX}) {
            refused(day, "count(" + bad + ")", BOUNDS, () -> day.count(bad));
        }
        counts(day, 4, 3, 0, 0, 0, 0, 2, 1);
        day.setTugs(2);
        day.ask(0, -1, 0, 0, 300);
        day.ask(1, -1, 1, 200, 300);
        day.ask(2, -1, 2, 0, 300);
        day.ask(3, -1, 2, 0, 300);
        day.drop(day.ask(3, -1, 2, 0, 300));
        counts(day, 4, 3, 5, 4, 0, 0, 2, 2);
        day.tick(1);
        counts(day, 4, 3, 5, 3, 1, 0, 1, 2);
        day.tick(2);
        counts(day, 4, 3, 5, 2, 2, 0, 1, 1);
        day.call(0);
        day.call(1);
        day.tick(1);
        counts(day, 4, 3, 5, 2, 2, 2, 1, 1);
        day.tick(2);
        counts(day, 4, 3, 5, 2, 1, 1, 1, 1);
        day.tick(2);
        counts(day, 4, 3, 5, 2, 0, 0, 1, 1);
        day.tick(2);
        counts(day, 4, 3, 5, 1, 1, 0, 0, 2);
    }

    private static void isBusy() {
        GliderDay day = club(PILOT, PILOT);
        due("at first", day.isBusy(), false);
        day.ask(0, -1, 0, 0, 5);
        day.tick(1);
        due("from the start by winch", day.isBusy(), true);
        day.tick(1);
        due("one minute later", day.isBusy(), true);
        day.tick(1);
        due("two minutes later", day.isBusy(), false);
        day.tick(3);
        due("from the landing", day.isBusy(), true);
        day.tick(1);
        due("one minute after it", day.isBusy(), true);
        day.tick(1);
        due("two minutes after it", day.isBusy(), false);
        day.ask(0, -1, 0, 500, 5);
        boolean[] want = {true, true, true, false, false, true, true, false};
        for (int i = 0; i < want.length; i++) {
            day.tick(1);
            due("a tug start, minute " + i, day.isBusy(), want[i]);
        }
    }

    private static void bill() {
        GliderDay day = club(PILOT, TEACHER);
        for (int bad : new int[] {-1, 2, MIN, MAX}) {
            refused(day, "bill(" + bad + ")", BOUNDS, () -> day.bill(bad));
        }
        day.ask(0, 1, 0, 0, 10);
        day.tick(5);
        due("not before the landing", day.bill(0), 0);
        day.tick(10);
        due("bill", day.bill(0), 38);
        due("the second member owes nothing", day.bill(1), 0);
        day.ask(1, 0, 1, 400, 10);
        day.tick(20);
        due("the bill of the other", day.bill(1), 20 + 50);
        due("bill", day.bill(0), 38);
        day.ask(0, -1, 2, 0, 20);
        day.tick(30);
        due("both flights", day.bill(0), 38 + 8 + 140);
        day.pay(0, 100);
        due("less what was paid", day.bill(0), 86);
    }

    private static void pay() {
        GliderDay day = club(PILOT, PILOT);
        for (int bad : new int[] {-1, 2, MIN, MAX}) {
            refused(day, "pay(" + bad + ", 5)", BOUNDS, () -> day.pay(bad, 5));
            refused(day, "pay(" + bad + ", 0)", BOUNDS, () -> day.pay(bad, 0));
        }
        for (int bad : new int[] {0, -1, 100001, MIN, MAX}) {
            refused(day, "pay(0, " + bad + ")", ARGUMENT, () -> day.pay(0, bad));
        }
        due("pay 1", day.pay(0, 1), -1);
        due("pay 100000", day.pay(0, 100000), -100001);
        due("bill", day.bill(0), -100001);
        due("another's bill", day.bill(1), 0);
        day.ask(1, -1, 2, 0, 10);
        day.tick(15);
        due("pay a part", day.pay(1, 70), 8);
        due("pay more than it owes", day.pay(1, 10), -2);
        due("income stays", day.income(), 78);
    }

    private static void income() {
        GliderDay day = club(PILOT, PILOT);
        day.ask(0, -1, 0, 0, 10);
        day.ask(1, -1, 1, 400, 30);
        day.tick(5);
        due("nothing landed", day.income(), 0);
        day.tick(10);
        due("one landed", day.income(), 8 + 30);
        day.tick(30);
        due("both landed", day.income(), 38 + 20 + 150);
        day.pay(0, 38);
        due("who paid does not matter", day.income(), 208);
    }

    private static void longest() {
        GliderDay day = club(PILOT, PILOT);
        day.ask(0, -1, 0, 0, 10);
        day.tick(5);
        due("none landed", day.longest(), -1);
        day.tick(10);
        due("one landed", day.longest(), 0);
        day.ask(1, -1, 1, 500, 10);
        day.tick(20);
        due("the same length", day.flight(1, 6) - day.flight(1, 5), 10);
        due("the smallest number", day.longest(), 0);
        day.ask(1, -1, 1, 500, 11);
        day.tick(8);
        due("it flies still", day.longest(), 0);
        day.tick(20);
        due("a longer one", day.longest(), 2);
        day.drop(day.ask(1, -1, 1, 500, 300));
        day.ask(0, -1, 0, 500, 9);
        day.tick(20);
        due("a shorter one", day.longest(), 2);
        GliderDay late = club(PILOT, PILOT);
        late.ask(0, -1, 0, 600, 250);
        late.ask(1, -1, 1, 0, 240);
        late.tick(300);
        due("beyond 180 minutes", late.longest(), 0);
        GliderDay swapped = club(PILOT, PILOT);
        swapped.bar(0, true);
        swapped.ask(0, -1, 0, 500, 10);
        swapped.ask(1, -1, 1, 500, 10);
        swapped.tick(20);
        swapped.bar(0, false);
        swapped.tick(20);
        due("the greater number landed first", swapped.longest(), 0);
    }

    private static void waited() {
        GliderDay day = club(PILOT, PILOT, PILOT);
        day.ask(0, -1, 0, 0, 100);
        day.ask(0, -1, 1, 0, 100);
        dueMean("none has begun", day.waited(), 0.0);
        day.tick(1);
        dueMean("one that flies", day.waited(), 1.0);
        day.tick(3);
        day.ask(1, -1, 1, 0, 2);
        day.tick(1);
        dueMean("two", day.waited(), 1.0);
        day.ask(2, -1, 2, 600, 2);
        day.tick(5);
        dueMean("three", day.waited(), (1 + 1 + 4) / 3.0);
        day.drop(1);
        day.tick(150);
        dueMean("landed ones count, dropped ones do not", day.waited(), 6 / 3.0);
        day.ask(0, -1, 1, 0, 2);
        day.tick(9);
        dueMean("four", day.waited(), 7 / 4.0);
        due("it began", day.flight(4, 0), 2);
    }

    private static void digest() {
        GliderDay day = new GliderDay();
        due("digest of nothing", day.digest(), digestOf(day));
        long known = 317;
        for (int x : new int[] {0, 0, 0, 0, 0, 0, 0, 2, 1}) {
            known = known * 31 + x;
        }
        due("digest of nothing, by hand", day.digest(), known);
        due("digest of a list", listedDay().digest(), digestOf(listedDay()));
        for (int minutes = 1; minutes <= 40; minutes++) {
            day = listedDay();
            day.drop(2);
            day.tick(minutes);
            due("digest at " + day.now(), day.digest(), digestOf(day));
        }
        day.pay(1, 99999);
        due("digest after paying", day.digest(), digestOf(day));
        due("digest again", day.digest(), digestOf(day));
    }

    private static GliderDay listedDay() {
        GliderDay day = club(PILOT, SOLO, TEACHER, STUDENT);
        day.ask(0, -1, 2, 700, 20);
        day.ask(3, 2, 0, 0, 5);
        day.ask(1, 0, 1, 0, 30);
        day.ask(1, 2, 1, 0, 30);
        day.bar(1, true);
        return day;
    }

    private static long digestOf(GliderDay day) {
        long d = 317L * 31 + day.now();
        for (int what = 0; what < 8; what++) {
            d = d * 31 + day.count(what);
        }
        for (int member = 0; member < day.count(0); member++) {
            for (int what = 0; what < 6; what++) {
                d = d * 31 + day.member(member, what);
            }
            d = d * 31 + day.bill(member);
        }
        for (int glider = 0; glider < day.count(1); glider++) {
            for (int what = 0; what < 5; what++) {
                d = d * 31 + day.glider(glider, what);
            }
        }
        for (int flight = 0; flight < day.count(2); flight++) {
            for (int what = 0; what < 8; what++) {
                d = d * 31 + day.flight(flight, what);
            }
        }
        for (int place = 0; place < day.count(3); place++) {
            d = d * 31 + day.list(place);
        }
        return d;
    }

    private static void face() {
        String[] want = {"addMember(int)int", "addGlider(int,int,int)int", "setWind(int)int", "setSunset(int)int",
            "setTugs(int)int", "bar(int,boolean)boolean", "promote(int)int", "member(int,int)int", "glider(int,int)int",
            "ask(int,int,int,int,int)int", "drop(int)int", "list(int)int", "reason(int)int", "call(int)int",
            "tick(int)int", "now()int", "flight(int,int)int", "count(int)int", "isBusy()boolean", "bill(int)int",
            "pay(int,int)int", "income()int", "longest()int", "waited()double", "digest()long"};
        TreeSet<String> found = new TreeSet<>();
        for (Method m : GliderDay.class.getDeclaredMethods()) {
            if (!Modifier.isPrivate(m.getModifiers())) {
                StringBuilder s = new StringBuilder(m.getName()).append('(');
                for (Class<?> c : m.getParameterTypes()) {
                    s.append(s.charAt(s.length() - 1) == '(' ? "" : ",").append(c.getName());
                }
                found.add(s.append(')').append(m.getReturnType().getName()).toString());
                due(m + " is public and no more", m.getModifiers(), Modifier.PUBLIC);
            }
        }
        due("the methods are those of the face: " + found, found.equals(new TreeSet<>(Arrays.asList(want))), true);
        for (Method m : GliderDay.class.getDeclaredMethods()) {
            boolean isNamesake = Modifier.isPrivate(m.getModifiers())
                    && Arrays.stream(want).anyMatch(w -> w.startsWith(m.getName() + "("));
            due(m + " bears the name of a public one", isNamesake, false);
        }
        for (Field f : GliderDay.class.getDeclaredFields()) {
            due(f + " is private", Modifier.isPrivate(f.getModifiers()), true);
        }
        Constructor<?>[] made = GliderDay.class.getDeclaredConstructors();
        due("constructors", made.length, 1);
        due("its parameters", made[0].getParameterCount(), 0);
        due("the class is public and final", GliderDay.class.getModifiers(), Modifier.PUBLIC | Modifier.FINAL);
    }

    public static void main(String[] args) {
        test("the public face", PromiseTests::face);
        test("promise 1, a new object", PromiseTests::newObject);
        test("promise 2, addMember", PromiseTests::addMember);
        test("promise 3, addGlider", PromiseTests::addGlider);
        test("promise 4, setWind", PromiseTests::setWind);
        test("promise 5, setSunset", PromiseTests::setSunset);
        test("promise 6, setTugs", PromiseTests::setTugs);
        test("promise 7, bar", PromiseTests::bar);
        test("promise 8, promote", PromiseTests::promote);
        test("promise 9, member", PromiseTests::member);
        test("promise 10, glider", PromiseTests::glider);
        test("promise 11, ask", PromiseTests::ask);
        test("promise 12, drop", PromiseTests::drop);
        test("promise 13, list", PromiseTests::list);
        test("promise 14, reason", PromiseTests::reason);
        test("promise 15, call", PromiseTests::call);
        test("promise 16, tick", PromiseTests::tick);
        test("promise 17, now", PromiseTests::now);
        test("promise 18, flight", PromiseTests::flight);
        test("promise 19, count", PromiseTests::count);
        test("promise 20, isBusy", PromiseTests::isBusy);
        test("promise 21, bill", PromiseTests::bill);
        test("promise 22, pay", PromiseTests::pay);
        test("promise 23, income", PromiseTests::income);
        test("promise 24, longest", PromiseTests::longest);
        test("promise 25, waited", PromiseTests::waited);
        test("promise 26, digest", PromiseTests::digest);
        finish();
    }
}
