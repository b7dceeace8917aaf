/** One test for each sentence under 'Terms' (and 'What it is') that names a boundary case, in the document's order. */
public final class TermsBoundaryTests extends Checks {

    // ---- what it is

    private static void fiveHundredAndTwelveCalls() {
        GliderDay day = new GliderDay();
        day.addMember(PILOT);
        for (int call = 2; call < 512; call++) {
            day.pay(0, 100000);
        }
        due("the 512th call", day.pay(0, 99999), -51099999);
    }

    // ---- time

    private static void timeIsZeroAtFirst() {
        due("now", new GliderDay().now(), 0);
    }

    private static void timeGoesOnByTickAlone() {
        GliderDay day = club(PILOT, STUDENT, TEACHER);
        day.ask(0, -1, 0, 0, 20);
        day.tick(7);
        Call[] others = {() -> day.addMember(1), () -> day.addGlider(1, 1, 5), () -> day.setWind(3),
            () -> day.setSunset(900), () -> day.setTugs(2), () -> day.bar(1, true), () -> day.member(0, 0),
            () -> day.glider(0, 0), () -> day.ask(1, 2, 1, 0, 20), () -> day.list(0), () -> day.reason(1),
            () -> day.drop(1), () -> day.call(0), () -> day.flight(0, 0), () -> day.count(0), () -> day.isBusy(),
            () -> day.bill(0), () -> day.pay(0, 5), () -> day.income(), () -> day.longest(), () -> day.waited(),
            () -> day.digest()};
        for (int i = 0; i < others.length; i++) {
            others[i].run();
            due("now after call " + i, day.now(), 7);
        }
        day.tick(1);
        due("now after tick(1)", day.now(), 8);
    }

    private static void timeEndsAt1500() {
        GliderDay day = new GliderDay();
        for (int i = 0; i < 4; i++) {
            day.tick(300);
        }
        day.tick(1);
        refused(day, "300 minutes from 1201", ARGUMENT, () -> day.tick(300));
        day.tick(298);
        refused(day, "2 minutes from 1499", ARGUMENT, () -> day.tick(2));
        due("1 minute from 1499", day.tick(1), 0);
        due("the end", day.now(), 1500);
        refused(day, "1 minute from 1500", ARGUMENT, () -> day.tick(1));
        GliderDay whole = new GliderDay();
        for (int i = 0; i < 5; i++) {
            due("300 minutes", whole.tick(300), 0);
        }
        due("the end by 300", whole.now(), 1500);
    }

    private static void whatIsInTheAirAt1500StaysThere() {
        GliderDay day = club(PILOT, PILOT, PILOT);
        day.setSunset(1500);
        for (int i = 0; i < 4; i++) {
            day.tick(300);
        }
        day.tick(270);
        for (int i = 0; i < 3; i++) {
            day.ask(i, -1, i, 0, 300);
        }
        day.tick(30);
        due("two fly at the end", day.count(4), 2);
        due("one landed in the last minute", day.flight(0, 6), 1500);
        due("both wait", day.count(5), 2);
        refused(day, "a minute in which it would land", ARGUMENT, () -> day.tick(1));
        due("it has no landing", day.flight(1, 6), -1);
        due("it costs nothing", day.bill(1), 0);
    }

    // ---- divisions are cut towards 0

    private static int costOf(int height) {
        GliderDay day = new GliderDay();
        day.addMember(PILOT);
        day.addGlider(1, 1, 40);
        day.ask(0, -1, 0, height, 5);
        day.tick(6);
        return day.flight(0, 7) - 5;
    }

    private static void heightDividedBy20IsCut() {
        int[][] due = {{0, 8}, {200, 10}, {219, 10}, {220, 11}, {239, 11}, {1480, 74}, {1499, 74}, {1500, 75}};
        for (int[] row : due) {
            due("what a start to " + row[0] + " costs", costOf(row[0]), row[1]);
        }
    }

    private static int minutesOfTheTug(int height) {
        GliderDay day = club(PILOT);
        day.ask(0, -1, 0, height, 300);
        day.tick(1);
        int minutes = 0;
        while (day.count(7) == 0 && minutes < 100) {
            day.tick(1);
            minutes++;
        }
        return minutes;
    }

    private static void heightDividedBy100IsCut() {
        int[][] due = {{200, 6}, {201, 6}, {299, 6}, {300, 7}, {399, 7}, {1400, 18}, {1499, 18}, {1500, 19}};
        for (int[] row : due) {
            due("the minutes of a tug to " + row[0], minutesOfTheTug(row[0]), row[1]);
        }
    }

    // ---- members and gliders

    private static void sixteenMembersFromZero() {
        GliderDay day = new GliderDay();
        for (int i = 0; i < 16; i++) {
            due("addMember", day.addMember(3 - i % 4), i);
            due("members", day.count(0), i + 1);
        }
        refused(day, "the seventeenth", STATE, () -> day.addMember(PILOT));
        due("members", day.count(0), 16);
        due("the last has its level", day.member(15, 0), 0);
    }

    private static void memberFliesFromBeginToLanding() {
        GliderDay day = club(PILOT, PILOT, PILOT);
        day.ask(0, 1, 0, 0, 300);
        due("asked for", day.member(0, 1), 0);
        day.tick(1);
        due("from the begin on", day.member(0, 1), 1);
        due("the second too", day.member(1, 1), 1);
        due("another not", day.member(2, 1), 0);
        day.call(0);
        day.tick(1);
        due("while it waits", day.member(0, 1), 1);
        due("the second too while it waits", day.member(1, 1), 1);
        day.tick(1);
        due("on the ground from the landing on", day.member(0, 1), 0);
        due("the second too from the landing on", day.member(1, 1), 0);
    }

    private static void eightGlidersFromZero() {
        GliderDay day = new GliderDay();
        for (int i = 0; i < 8; i++) {
            due("addGlider", day.addGlider(1 + i % 2, 1 + i, 5 + i), i);
            due("gliders", day.count(1), i + 1);
        }
        refused(day, "the ninth", STATE, () -> day.addGlider(1, 1, 5));
        due("gliders", day.count(1), 8);
        due("the last is on the ground", day.glider(7, 0), 0);
    }

    private static void rateIs1To50() {
        for (int rate : new int[] {1, 50}) {
            GliderDay day = new GliderDay();
            day.addMember(PILOT);
            due("a glider of rate " + rate, day.addGlider(1, rate, 40), 0);
            day.ask(0, -1, 0, 0, 10);
            day.tick(11);
            due("ten minutes at rate " + rate, day.bill(0), 8 + 10 * rate);
        }
    }

    private static void gliderIsOnGroundFliesOrWaits() {
        GliderDay day = club(PILOT);
        day.ask(0, -1, 0, 500, 2);
        due("before the begin", day.glider(0, 0), 0);
        day.tick(1);
        due("at the begin", day.glider(0, 0), 1);
        day.tick(1);
        due("a minute before its minutes are over", day.glider(0, 0), 1);
        day.tick(1);
        due("when they are over and the field is busy", day.glider(0, 0), 2);
        day.tick(1);
        due("at the landing", day.glider(0, 0), 0);
    }

    private static void gliderIsBarredOnGroundAlone() {
        GliderDay day = club(PILOT);
        day.ask(0, -1, 0, 500, 2);
        due("on the ground", day.bar(0, true), false);
        due("let fly again", day.bar(0, false), true);
        day.tick(1);
        refused(day, "bar what flies", STATE, () -> day.bar(0, true));
        day.tick(2);
        due("it waits", day.glider(0, 0), 2);
        refused(day, "bar what waits", STATE, () -> day.bar(0, true));
        day.tick(1);
        due("from the landing on", day.bar(0, true), false);
    }

    // ---- what the day begins with

    private static void windIs10AtFirst() {
        due("the wind before", new GliderDay().setWind(0), 10);
        GliderDay day = withMembers(PILOT);
        day.addGlider(1, 1, 9);
        day.addGlider(1, 1, 10);
        due("a limit of 9", day.reason(day.ask(0, -1, 0, 0, 5)), 5);
        due("a limit of 10", day.reason(day.ask(0, -1, 1, 0, 5)), 0);
    }

    private static void windIs0To40() {
        GliderDay day = new GliderDay();
        refused(day, "setWind(41)", ARGUMENT, () -> day.setWind(41));
        refused(day, "setWind(-1)", ARGUMENT, () -> day.setWind(-1));
        due("no refused wind blows", day.setWind(40), 10);
        due("the most", day.setWind(0), 40);
        due("the least", day.setWind(0), 0);
    }

    private static void sunsetIs600AtFirst() {
        due("the time before", new GliderDay().setSunset(0), 600);
        GliderDay day = club(PILOT);
        day.tick(300);
        day.tick(290);
        int flight = day.ask(0, -1, 0, 0, 5);
        due("at 590", day.reason(flight), 0);
        day.bar(0, true);
        day.tick(1);
        day.bar(0, false);
        due("at 591", day.reason(flight), 6);
    }

    private static void sunsetIs0To1500() {
        GliderDay day = new GliderDay();
        refused(day, "setSunset(1501)", ARGUMENT, () -> day.setSunset(1501));
        refused(day, "setSunset(-1)", ARGUMENT, () -> day.setSunset(-1));
        due("no refused sunset counts", day.setSunset(1500), 600);
        due("the latest", day.setSunset(0), 1500);
        due("the earliest", day.setSunset(0), 0);
    }

    private static void twoCablesAndOneTugAtFirst() {
        GliderDay day = new GliderDay();
        due("free cables", day.count(6), 2);
        due("free tugs", day.count(7), 1);
    }

    private static void tugsAre0To2() {
        GliderDay day = new GliderDay();
        due("2", day.setTugs(2), 2);
        refused(day, "3", ARGUMENT, () -> day.setTugs(3));
        due("0", day.setTugs(0), 0);
        refused(day, "-1", ARGUMENT, () -> day.setTugs(-1));
        due("free tugs", day.count(7), 0);
    }

    // ---- the list

    private static void askAll(GliderDay day, int flights) {
        for (int i = 0; i < flights; i++) {
            day.ask(0, -1, 0, 0, 5);
        }
    }

    private static void listInTheOrderOfAsking() {
        GliderDay day = club(PILOT, PILOT);
        listIs(day);
        day.ask(1, -1, 2, 300, 9);
        day.ask(0, -1, 0, 0, 5);
        day.ask(1, -1, 1, 0, 7);
        listIs(day, 0, 1, 2);
    }

    private static void thirtyOnTheList() {
        GliderDay day = club(PILOT);
        askAll(day, 29);
        due("the thirtieth", day.ask(0, -1, 0, 0, 5), 29);
        due("on the list", day.count(3), 30);
        refused(day, "the thirty-first", STATE, () -> day.ask(0, -1, 0, 0, 5));
        day.drop(29);
        due("in the place of one that was dropped", day.ask(0, -1, 0, 0, 5), 30);
        refused(day, "one more", STATE, () -> day.ask(0, -1, 0, 0, 5));
        due("one begins", day.tick(1), 1);
        due("in the place of one that began", day.ask(0, -1, 0, 0, 5), 31);
        refused(day, "one more again", STATE, () -> day.ask(0, -1, 0, 0, 5));
    }

    private static void hundredAllDay() {
        GliderDay day = club(PILOT);
        for (int i = 0; i < 99; i++) {
            due("its number", day.ask(0, -1, 0, 0, 5), i);
            day.drop(i);
        }
        due("the hundredth", day.ask(0, -1, 0, 0, 5), 99);
        refused(day, "with one on the list", STATE, () -> day.ask(0, -1, 0, 0, 5));
        due("its place", day.drop(99), 0);
        refused(day, "with none on the list", STATE, () -> day.ask(0, -1, 0, 0, 5));
        due("asked for", day.count(2), 100);
        due("how the hundredth is", day.flight(99, 0), 3);
    }

    private static void heightIs0Or200To1500() {
        GliderDay day = club(PILOT);
        for (int good : new int[] {0, 200, 201, 1499, 1500}) {
            due("height", day.flight(day.ask(0, -1, 0, good, 5), 4), good);
        }
        for (int bad : new int[] {1, 100, 199, 1501, -1, -200, MIN, MAX}) {
            refused(day, "height " + bad, ARGUMENT, () -> day.ask(0, -1, 0, bad, 5));
        }
    }

    private static int minuteOfLanding(int minutes) {
        GliderDay day = club(PILOT);
        day.ask(0, -1, 0, 0, minutes);
        day.tick(300);
        day.tick(10);
        return day.flight(0, 6);
    }

    private static void minutesAre2To300() {
        due("2 minutes from 1 on", minuteOfLanding(2), 3);
        due("3 minutes from 1 on", minuteOfLanding(3), 4);
        due("300 minutes from 1 on", minuteOfLanding(300), 301);
        GliderDay day = club(PILOT);
        for (int bad : new int[] {1, 0, -1, -2, 301, MIN, MAX}) {
            refused(day, bad + " minutes", ARGUMENT, () -> day.ask(0, -1, 0, 0, bad));
        }
    }

    // ---- the reasons

    private static void reasonOneAMemberFlies() {
        GliderDay day = club(PILOT, PILOT, TEACHER, PILOT);
        day.ask(0, 1, 0, 0, 100);
        day.tick(3);
        due("the member flies", day.reason(day.ask(0, -1, 1, 0, 5)), 1);
        due("the member flies as second", day.reason(day.ask(1, -1, 1, 0, 5)), 1);
        due("the second flies", day.reason(day.ask(2, 0, 1, 0, 5)), 1);
        due("the second flies as second", day.reason(day.ask(2, 1, 1, 0, 5)), 1);
        due("both fly", day.reason(day.ask(1, 0, 1, 0, 5)), 1);
        due("none of them flies", day.reason(day.ask(2, 3, 1, 0, 5)), 0);
        due("one alone that does not fly", day.reason(day.ask(2, -1, 1, 0, 5)), 0);
    }

    private static void reasonOneUntilTheLanding() {
        GliderDay day = club(PILOT, PILOT);
        day.ask(0, 1, 0, 500, 2);
        int asked = day.ask(1, -1, 1, 0, 5);
        day.tick(3);
        due("while it waits", day.reason(asked), 1);
        day.tick(1);
        due("from the landing on", day.reason(asked), 8);
    }

    private static void reasonTwoTheGliderFliesOrIsBarred() {
        GliderDay day = club(PILOT, PILOT);
        day.ask(0, -1, 0, 500, 2);
        int asked = day.ask(1, -1, 0, 0, 5);
        int other = day.ask(1, -1, 1, 0, 5);
        due("on the ground", day.reason(asked), 0);
        day.bar(0, true);
        due("barred", day.reason(asked), 2);
        due("another is not", day.reason(other), 0);
        day.bar(0, false);
        due("let fly", day.reason(asked), 0);
        day.tick(1);
        due("it flies", day.reason(asked), 2);
        day.tick(2);
        due("it waits", day.reason(asked), 2);
        day.tick(1);
        due("it landed", day.reason(asked), 8);
    }

    private static void reasonThreeOneSeat() {
        GliderDay day = club(PILOT, TEACHER);
        due("one seat, two members", day.reason(day.ask(0, 1, 2, 0, 5)), 3);
        due("one seat, one member", day.reason(day.ask(0, -1, 2, 0, 5)), 0);
        due("two seats, two members", day.reason(day.ask(0, 1, 1, 0, 5)), 0);
        due("two seats, one member", day.reason(day.ask(0, -1, 1, 0, 5)), 0);
        due("member 0 as second is not none", day.reason(day.ask(1, 0, 2, 0, 5)), 3);
    }

    private static void reasonFourByLevel() {
        GliderDay day = club(STUDENT, SOLO, PILOT, TEACHER, STUDENT, SOLO, PILOT, TEACHER);
        day.setWind(0);
        int[][] due = {{4, 4, 4, 4, 0}, {4, 4, 4, 4, 0}, {0, 0, 0, 0, 0}, {0, 0, 0, 0, 0}};
        for (int member = 0; member < 4; member++) {
            for (int second = -1; second < 4; second++) {
                int flight = day.ask(member, second < 0 ? -1 : 4 + second, 0, 0, 5);
                due("level " + member + " with level " + second, day.reason(flight), due[member][second + 1]);
            }
        }
    }

    private static void reasonFourUntilALessonOfTheSoloLanded() {
        GliderDay day = club(SOLO, TEACHER, PILOT);
        int alone = day.ask(0, -1, 2, 0, 5);
        due("before any", day.reason(alone), 4);
        day.ask(0, 1, 0, 0, 5);
        day.tick(1);
        due("the lesson is on", day.reason(alone), 1);
        day.tick(7);
        due("it begins when the lesson landed and the field is free", day.flight(alone, 5), 8);
    }

    private static void reasonFourOtherFlightsAreNoLesson() {
        GliderDay day = club(SOLO, TEACHER, PILOT, STUDENT);
        int alone = day.ask(0, -1, 2, 0, 5);
        day.ask(1, 0, 0, 500, 5);
        day.tick(20);
        due("a landing as the second of a TEACHER", day.reason(alone), 4);
        day.ask(2, 0, 0, 500, 5);
        day.tick(20);
        due("a landing as the second of a PILOT", day.reason(alone), 4);
        day.ask(2, 1, 0, 500, 5);
        day.tick(20);
        due("another's landing with a TEACHER", day.reason(alone), 4);
        due("three flights landed", day.count(2) - day.count(3), 3);
    }

    private static void reasonFourAlwaysForAStudent() {
        GliderDay day = club(STUDENT, TEACHER, PILOT);
        day.setWind(0);
        lessons(day, 0, 1, 3);
        int alone = day.ask(0, -1, 2, 0, 5);
        int withPilot = day.ask(0, 2, 0, 0, 5);
        due("a STUDENT after three lessons", day.reason(alone), 4);
        due("a STUDENT with a PILOT after three lessons", day.reason(withPilot), 4);
        day.promote(0);
        due("the same when it is a SOLO", day.reason(alone), 0);
        due("the same with a PILOT", day.reason(withPilot), 0);
    }

    private static void windAgainstTheGlider() {
        for (int limit : new int[] {5, 6, 24}) {
            GliderDay day = withMembers(PILOT);
            day.addGlider(1, 1, limit);
            int flight = day.ask(0, -1, 0, 0, 5);
            day.setWind(limit);
            due("wind as the limit " + limit, day.reason(flight), 0);
            day.setWind(limit + 1);
            due("wind above the limit " + limit, day.reason(flight), 5);
        }
    }

    private static void windIs(GliderDay day, String who, int flight, int most) {
        day.setWind(most);
        due(who + " in wind " + most, day.reason(flight), 0);
        day.setWind(most + 1);
        due(who + " in wind " + (most + 1), day.reason(flight), 5);
    }

    private static void windAgainstTheCommander() {
        GliderDay day = club(SOLO, PILOT, TEACHER, STUDENT, TEACHER, PILOT);
        lessons(day, 0, 2, 1);
        windIs(day, "a SOLO", day.ask(0, -1, 0, 0, 5), 12);
        windIs(day, "a SOLO with a PILOT", day.ask(0, 1, 0, 0, 5), 12);
        windIs(day, "a SOLO with a STUDENT", day.ask(0, 3, 0, 0, 5), 12);
        windIs(day, "a SOLO with a TEACHER", day.ask(0, 2, 0, 0, 5), 30);
        windIs(day, "a PILOT", day.ask(1, -1, 0, 0, 5), 25);
        windIs(day, "a PILOT with a SOLO", day.ask(1, 0, 0, 0, 5), 25);
        windIs(day, "a PILOT with a PILOT", day.ask(1, 5, 0, 0, 5), 25);
        windIs(day, "a PILOT with a TEACHER", day.ask(1, 2, 0, 0, 5), 30);
        windIs(day, "a TEACHER", day.ask(2, -1, 0, 0, 5), 30);
        windIs(day, "a TEACHER with a PILOT", day.ask(2, 1, 0, 0, 5), 30);
        windIs(day, "a TEACHER with a STUDENT", day.ask(2, 3, 0, 0, 5), 30);
        windIs(day, "a TEACHER with a TEACHER", day.ask(2, 4, 0, 0, 5), 30);
        windIs(day, "a STUDENT with a TEACHER", day.ask(3, 2, 0, 0, 5), 30);
    }

    private static void lessThan10MinutesToSunset() {
        GliderDay day = club(PILOT);
        int flight = day.ask(0, -1, 0, 0, 100);
        int[][] due = {{0, 6}, {1, 6}, {9, 6}, {10, 0}, {11, 0}, {1500, 0}};
        for (int[] row : due) {
            day.setSunset(row[0]);
            due("reason with sunset at " + row[0], day.reason(flight), row[1]);
        }
        day.setSunset(10);
        due("9 minutes to sunset in the first minute", day.tick(1), 0);
        day.setSunset(12);
        due("10 minutes to sunset in the second", day.tick(1), 1);
    }

    private static void daylightToTheEndOfTime() {
        GliderDay day = club(PILOT, PILOT);
        day.setSunset(1500);
        for (int i = 0; i < 4; i++) {
            day.tick(300);
        }
        day.tick(288);
        day.ask(0, -1, 0, 0, 300);
        day.ask(1, -1, 1, 0, 300);
        due("a start at 1489", day.tick(1), 1);
        due("none at 1490, the field is busy", day.tick(1), 0);
        due("none at 1491", day.tick(1), 0);
        due("why", day.reason(1), 6);
        due("none after it", day.tick(8), 0);
        due("at 1499 it flies", day.glider(0, 0), 1);
        day.tick(1);
        due("at 1500 it lands", day.flight(0, 6), 1500);
    }

    /** Lets minutes pass in which glider 2 can not begin. */
    private static void passWithGlider2Barred(GliderDay day, int minutes) {
        day.bar(2, true);
        day.tick(minutes);
        day.bar(2, false);
    }

    private static void noCable() {
        GliderDay day = club(PILOT, PILOT, PILOT, PILOT);
        day.ask(0, -1, 0, 0, 300);
        day.ask(1, -1, 1, 0, 300);
        day.tick(1);
        int byWinch = day.ask(2, -1, 2, 0, 5);
        int byTug = day.ask(3, -1, 2, 200, 5);
        due("one cable, and the field is busy", day.reason(byWinch), 8);
        passWithGlider2Barred(day, 2);
        due("no cable, and the field is busy", day.reason(byWinch), 7);
        due("a tug, and the field is busy", day.reason(byTug), 8);
        passWithGlider2Barred(day, 9);
        due("no cable", day.reason(byWinch), 7);
        due("a tug", day.reason(byTug), 0);
        passWithGlider2Barred(day, 1);
        due("cables again", day.reason(byWinch), 0);
    }

    private static void noTug() {
        GliderDay day = club(PILOT, PILOT, PILOT);
        day.ask(0, -1, 0, 200, 300);
        day.tick(1);
        int byWinch = day.ask(1, -1, 2, 0, 5);
        int byTug = day.ask(2, -1, 2, 200, 5);
        due("no tug, and the field is busy", day.reason(byTug), 7);
        due("cables, and the field is busy", day.reason(byWinch), 8);
        passWithGlider2Barred(day, 5);
        due("no tug", day.reason(byTug), 7);
        due("cables", day.reason(byWinch), 0);
        day.setTugs(2);
        due("one tug of two", day.reason(byTug), 0);
        day.setTugs(1);
        passWithGlider2Barred(day, 1);
        due("the tug again", day.reason(byTug), 0);
        day.setTugs(0);
        due("a club without tugs", day.reason(byTug), 7);
    }

    /** The reasons against a start in these minutes, of a flight that is held back by its barred glider. */
    private static void reasonsInMinutes(GliderDay day, String after, int... want) {
        int flight = day.ask(1, -1, 2, 0, 5);
        for (int each : want) {
            due("minutes after " + after + ", reason at " + day.now(), day.reason(flight), each);
            passWithGlider2Barred(day, 1);
        }
    }

    private static void theFieldIsBusy() {
        for (int height : new int[] {0, 500}) {
            GliderDay day = club(PILOT, PILOT);
            day.ask(0, -1, 0, height, 10);
            day.tick(1);
            if (height == 0) {
                reasonsInMinutes(day, "a winch start", 8, 8, 0, 0, 0, 0, 0, 0, 0, 0, 8, 8, 0, 0);
            } else {
                reasonsInMinutes(day, "a tug start", 8, 8, 8, 0, 0, 0, 0, 0, 0, 0, 8, 8, 0, 0);
            }
            due("the landing", day.flight(0, 6), 11);
        }
    }

    private static void theFirstOfTheReasons() {
        GliderDay day = club(STUDENT, PILOT, TEACHER);
        day.ask(1, -1, 2, 0, 300);
        day.tick(1);
        day.setWind(40);
        day.setSunset(5);
        day.setTugs(0);
        int all = day.ask(0, 1, 2, 500, 5);
        due("all of them", day.reason(all), 1);
        day.addMember(PILOT);
        due("all but the first", day.reason(day.ask(0, 3, 2, 500, 5)), 2);
        day.addGlider(1, 1, 5);
        int thirdOn = day.ask(0, 3, 3, 500, 5);
        due("all from the third on", day.reason(thirdOn), 3);
        int fourthOn = day.ask(0, -1, 3, 500, 5);
        due("all from the fourth on", day.reason(fourthOn), 4);
        int fifthOn = day.ask(3, -1, 3, 500, 5);
        due("all from the fifth on", day.reason(fifthOn), 5);
        day.setWind(0);
        due("all from the sixth on", day.reason(fifthOn), 6);
        day.setSunset(600);
        due("all from the seventh on", day.reason(fifthOn), 7);
        day.setTugs(1);
        due("the eighth", day.reason(fifthOn), 8);
        day.bar(3, true);
        day.tick(2);
        day.bar(3, false);
        due("none", day.reason(fifthOn), 0);
    }

    // ---- the field

    private static void busyAre(GliderDay day, boolean... want) {
        for (boolean each : want) {
            due("isBusy at " + day.now(), day.isBusy(), each);
            day.tick(1);
        }
    }

    private static void fieldIsFreeAtFirst() {
        GliderDay day = club(PILOT);
        busyAre(day, false, false);
    }

    private static void fieldIsBusyFor2MinutesFromALanding() {
        GliderDay day = club(PILOT);
        day.ask(0, -1, 0, 0, 9);
        day.tick(9);
        busyAre(day, false, true, true, false);
        due("its landing", day.flight(0, 6), 10);
    }

    private static void fieldIsBusyFor2MinutesFromAWinchStart() {
        GliderDay day = club(PILOT);
        day.ask(0, -1, 0, 0, 300);
        busyAre(day, false, true, true, false, false);
    }

    private static void fieldIsBusyFor3MinutesFromATugStart() {
        for (int height : new int[] {200, 1500}) {
            GliderDay day = club(PILOT);
            day.ask(0, -1, 0, height, 300);
            busyAre(day, false, true, true, true, false, false);
        }
    }

    private static void startsWaitForTheField() {
        GliderDay day = club(PILOT, PILOT, PILOT);
        day.ask(0, -1, 0, 0, 300);
        day.ask(1, -1, 1, 500, 300);
        day.ask(2, -1, 2, 0, 300);
        day.tick(10);
        due("the first", day.flight(0, 5), 1);
        due("2 minutes after a winch start", day.flight(1, 5), 3);
        due("3 minutes after a tug start", day.flight(2, 5), 6);
    }

    // ---- cables and tugs

    private static void cablesAre(GliderDay day, int minutes, int want) {
        for (int i = 0; i < minutes; i++) {
            day.tick(1);
            due("free cables at " + day.now(), day.count(6), want);
        }
    }

    private static void aSingleCableStaysTaken() {
        GliderDay day = club(PILOT);
        day.ask(0, -1, 0, 0, 5);
        cablesAre(day, 40, 1);
    }

    private static void bothCablesAreFree10MinutesAfterTheSecond() {
        GliderDay day = club(PILOT, PILOT);
        day.ask(0, -1, 0, 0, 300);
        cablesAre(day, 6, 1);
        day.ask(1, -1, 1, 0, 300);
        cablesAre(day, 10, 0);
        cablesAre(day, 2, 2);
    }

    private static void cablesAreTakenAgainWhenFree() {
        GliderDay day = new GliderDay();
        for (int i = 0; i < 5; i++) {
            day.addMember(PILOT);
            day.addGlider(1, 1, 40);
            day.ask(i, -1, i, 0, 300);
        }
        cablesAre(day, 2, 1);
        cablesAre(day, 10, 0);
        cablesAre(day, 2, 1);
        cablesAre(day, 10, 0);
        cablesAre(day, 9, 1);
        int[] begins = {1, 3, 13, 15, 25};
        for (int i = 0; i < 5; i++) {
            due("begin of " + i, day.flight(i, 5), begins[i]);
        }
    }

    private static void eachStartTakesItsOwn() {
        GliderDay day = club(PILOT, PILOT);
        day.ask(0, -1, 0, 200, 300);
        day.ask(1, -1, 1, 0, 300);
        day.tick(1);
        due("a tug start takes no cable", day.count(6), 2);
        due("but a tug", day.count(7), 0);
        day.tick(6);
        due("a winch start takes a cable", day.count(6), 1);
        due("and no tug", day.count(7), 1);
    }

    private static void eachTugIsDueByItself() {
        GliderDay day = club(PILOT, PILOT);
        day.setTugs(2);
        day.ask(0, -1, 0, 1500, 300);
        day.ask(1, -1, 1, 200, 300);
        int[] free = {1, 1, 1, 0, 0, 0, 0, 0, 0, 1, 1, 1, 1, 1, 1, 1, 1, 1, 1, 2, 2};
        for (int i = 0; i < free.length; i++) {
            day.tick(1);
            due("free tugs at " + day.now(), day.count(7), free[i]);
        }
    }

    private static void aTugIsTakenAgainInTheMinuteInWhichItIsFree() {
        GliderDay day = club(PILOT, PILOT, PILOT);
        day.ask(0, -1, 0, 200, 300);
        day.ask(1, -1, 1, 300, 300);
        day.ask(2, -1, 2, 300, 300);
        day.tick(20);
        due("the second", day.flight(1, 5), 7);
        due("the third", day.flight(2, 5), 14);
    }

    // ---- tick

    private static void minutesPassOneAfterTheOther() {
        GliderDay whole = new GliderDay();
        GliderDay single = new GliderDay();
        for (GliderDay day : new GliderDay[] {whole, single}) {
            for (int i = 0; i < 6; i++) {
                day.addMember(PILOT);
                day.addGlider(1, 1 + i, 40);
            }
            for (int i = 0; i < 6; i++) {
                day.ask(i, -1, i, i % 2 * 400, 5 + i);
                day.ask(i, -1, 5 - i, i % 3 * 300, 12);
            }
        }
        int begun = 0;
        for (int i = 0; i < 150; i++) {
            begun += single.tick(1);
        }
        due("how many began", whole.tick(150), begun);
        due("all did", begun, 12);
        due("the digest", whole.digest(), single.digest());
    }

    private static void itsMinutesAreOverExactlyThen() {
        GliderDay day = club(PILOT);
        day.ask(0, -1, 0, 0, 20);
        day.tick(20);
        due("19 minutes after its begin", day.glider(0, 0), 1);
        day.tick(1);
        due("20 minutes after its begin", day.flight(0, 6), 21);
    }

    private static void theSunHasSetAtItsTime() {
        GliderDay day = club(PILOT);
        day.setSunset(30);
        day.ask(0, -1, 0, 0, 300);
        day.tick(29);
        due("a minute before", day.glider(0, 0), 1);
        day.tick(1);
        due("at sunset", day.flight(0, 6), 30);
        GliderDay late = club(PILOT);
        late.ask(0, -1, 0, 0, 300);
        late.tick(20);
        late.setSunset(0);
        due("not by setting it", late.glider(0, 0), 1);
        late.tick(1);
        due("in the next minute", late.flight(0, 6), 21);
    }

    private static void aCalledGliderWaitsFromTheNextMinuteOn() {
        GliderDay day = club(PILOT, PILOT);
        day.ask(0, -1, 0, 0, 300);
        day.ask(1, -1, 1, 0, 300);
        day.tick(1);
        day.call(0);
        due("not by calling it", day.glider(0, 0), 1);
        day.tick(1);
        due("in the next minute", day.glider(0, 0), 2);
        day.tick(1);
        due("it lands when the field is free", day.flight(0, 6), 3);
        due("the other is not called", day.tick(100), 1);
        due("and flies on", day.glider(1, 0), 1);
    }

    private static void aCallCountsForOneFlight() {
        GliderDay day = club(PILOT);
        day.ask(0, -1, 0, 0, 300);
        day.ask(0, -1, 0, 0, 30);
        day.tick(5);
        day.call(0);
        day.call(0);
        day.tick(5);
        due("the first", day.flight(0, 6), 6);
        due("the second begins", day.flight(1, 5), 8);
        day.tick(40);
        due("and flies its minutes", day.flight(1, 6), 38);
        due("the glider landed from both", day.glider(0, 2), 2);
    }

    private static GliderDay eightInTheAir() {
        GliderDay day = new GliderDay();
        for (int i = 0; i < 8; i++) {
            day.addMember(PILOT);
            day.addGlider(1, 1, 40);
        }
        day.setTugs(2);
        for (int i = 7; i >= 0; i--) {
            day.ask(i, -1, i, i % 2 * 200, 300);
        }
        due("all begin", day.tick(60), 8);
        return day;
    }

    private static void thoseOfTheSameMinuteInAscendingOrder() {
        GliderDay day = eightInTheAir();
        day.setSunset(61);
        day.tick(1);
        due("all fly", day.count(4), 7);
        due("all wait but one", day.count(5), 7);
        for (int i = 0; i < 8; i++) {
            due("glider " + i + " landed at " + day.now(), day.glider(i, 2), 1);
            due("those that wait", day.count(5), 7 - i);
            day.tick(1);
            due("none lands while the field is busy", day.count(5), 7 - i);
            day.tick(1);
        }
        due("none flies", day.count(4), 0);
    }

    private static void whoHasWaitedLongestLands() {
        GliderDay day = eightInTheAir();
        int[] order = {6, 7, 2, 0, 5};
        for (int glider : order) {
            day.call(glider);
            day.tick(1);
        }
        due("those that wait", day.count(5), 2);
        for (int i = 0; i < order.length; i++) {
            due("landing of glider " + order[i], day.glider(order[i], 0), i < 3 ? 0 : 2);
        }
        day.call(5);
        day.tick(2);
        due("0 before 5, which waits for a shorter time", day.glider(0, 0), 0);
        due("5 still waits", day.glider(5, 0), 2);
        day.tick(2);
        due("5 at last", day.glider(5, 0), 0);
        due("three fly on", day.count(4), 3);
    }

    private static void aLandingComesBeforeAStart() {
        GliderDay day = club(PILOT, PILOT);
        day.ask(0, -1, 0, 0, 9);
        day.tick(9);
        day.ask(1, -1, 1, 0, 9);
        due("no start in the minute of the landing", day.tick(1), 0);
        due("the landing", day.flight(0, 6), 10);
        due("nor in the next", day.tick(1), 0);
        due("two minutes after it", day.tick(1), 1);
    }

    private static void aStartHoldsUpALanding() {
        GliderDay day = club(PILOT, PILOT);
        day.ask(0, -1, 0, 0, 9);
        day.tick(8);
        day.ask(1, -1, 1, 500, 20);
        due("a start in the minute before", day.tick(1), 1);
        day.tick(2);
        due("it waits while the field is busy", day.glider(0, 0), 2);
        day.tick(1);
        due("it lands 3 minutes after the start", day.flight(0, 6), 12);
    }

    private static void theFirstThatCanBeginDoes() {
        GliderDay day = club(PILOT, PILOT, STUDENT);
        day.ask(2, -1, 0, 0, 9);
        day.ask(0, -1, 0, 0, 90);
        day.ask(0, -1, 1, 0, 90);
        day.ask(1, -1, 1, 0, 90);
        due("one in one minute", day.tick(1), 1);
        listIs(day, 0, 2, 3);
        due("one more", day.tick(2), 1);
        listIs(day, 0, 2);
        due("none of the others", day.tick(50), 0);
        listIs(day, 0, 2);
    }

    private static void onTheGroundFromTheLandingOn() {
        GliderDay day = club(TEACHER, STUDENT);
        day.ask(1, 0, 0, 0, 9);
        day.tick(9);
        memberFacts(day, 0, TEACHER, 1, 0, 0, 0, 0);
        memberFacts(day, 1, STUDENT, 1, 0, 0, 0, 0);
        gliderFacts(day, 0, 1, 0, 0, 0, 0);
        day.tick(1);
        memberFacts(day, 0, TEACHER, 0, 1, 9, 0, 0);
        memberFacts(day, 1, STUDENT, 0, 1, 9, 1, 0);
        gliderFacts(day, 0, 0, 0, 1, 9, -1);
    }

    private static void minutesFromTheBeginAreRightWhenItWaits() {
        GliderDay day = club(PILOT, PILOT);
        day.ask(0, -1, 0, 0, 9);
        day.tick(8);
        day.ask(1, -1, 1, 500, 20);
        day.tick(4);
        memberFacts(day, 0, PILOT, 0, 1, 11, 0, 1);
        gliderFacts(day, 0, 0, 0, 1, 11, -1);
        flightFacts(day, 0, 2, 0, -1, 0, 0, 1, 12, 8 + 11 * 3);
    }

    // ---- what a flight costs

    private static void paidForAtMost180Minutes() {
        int[][] due = {{2, 2}, {179, 179}, {180, 180}, {181, 180}, {300, 180}};
        for (int[] row : due) {
            GliderDay day = club(PILOT);
            day.ask(0, -1, 2, 0, row[0]);
            day.tick(300);
            day.tick(1);
            due("the cost of " + row[0] + " minutes", day.flight(0, 7), 8 + 7 * row[1]);
            due("the bill for " + row[0] + " minutes", day.bill(0), 8 + 7 * row[1]);
            due("the income of " + row[0] + " minutes", day.income(), 8 + 7 * row[1]);
            due("the minutes of the glider", day.glider(2, 3), row[0]);
            due("the minutes of the member", day.member(0, 3), row[0]);
        }
    }

    private static void paidForTheMinutesFlown() {
        GliderDay day = club(PILOT, PILOT);
        day.ask(0, -1, 2, 0, 300);
        day.tick(21);
        day.call(2);
        day.tick(1);
        due("called back after 21 of 300 minutes", day.flight(0, 7), 8 + 7 * 21);
        int[][] late = {{177, 178}, {178, 179}, {179, 180}, {180, 180}};
        for (int[] row : late) {
            GliderDay waits = club(PILOT, PILOT);
            waits.ask(0, -1, 2, 0, row[0]);
            waits.tick(row[0] - 1);
            waits.ask(1, -1, 0, 0, 300);
            waits.tick(3);
            due("it lands late", waits.flight(0, 6), row[0] + 2);
            due("one minute more than " + row[0], waits.flight(0, 7), 8 + 7 * row[1]);
        }
    }

    private static void costsOnlyWhenLanded() {
        GliderDay day = club(PILOT);
        day.ask(0, -1, 0, 500, 2);
        day.tick(3);
        due("it waits", day.glider(0, 0), 2);
        due("its cost", day.flight(0, 7), 0);
        due("the bill", day.bill(0), 0);
        due("the income", day.income(), 0);
        day.tick(1);
        due("its cost when it landed", day.flight(0, 7), 25 + 9);
    }

    private static void whatItIsAndTime() {
        test("at most 512 calls", TermsBoundaryTests::fiveHundredAndTwelveCalls);
        test("time is 0 at first", TermsBoundaryTests::timeIsZeroAtFirst);
        test("time goes on by tick alone", TermsBoundaryTests::timeGoesOnByTickAlone);
        test("time ends at 1500", TermsBoundaryTests::timeEndsAt1500);
        test("what is in the air at 1500", TermsBoundaryTests::whatIsInTheAirAt1500StaysThere);
        test("the height divided by 20 is cut", TermsBoundaryTests::heightDividedBy20IsCut);
        test("the height divided by 100 is cut", TermsBoundaryTests::heightDividedBy100IsCut);
    }

    private static void membersAndGliders() {
        test("at most 16 members, from 0", TermsBoundaryTests::sixteenMembersFromZero);
        test("a member is on the ground, or flies", TermsBoundaryTests::memberFliesFromBeginToLanding);
        test("at most 8 gliders, from 0", TermsBoundaryTests::eightGlidersFromZero);
        test("a rate, 1 to 50", TermsBoundaryTests::rateIs1To50);
        test("a glider is on the ground, flies, or waits", TermsBoundaryTests::gliderIsOnGroundFliesOrWaits);
        test("on the ground it can be barred", TermsBoundaryTests::gliderIsBarredOnGroundAlone);
        test("the wind is 10 at first", TermsBoundaryTests::windIs10AtFirst);
        test("the wind is 0 to 40", TermsBoundaryTests::windIs0To40);
        test("sunset is at 600 at first", TermsBoundaryTests::sunsetIs600AtFirst);
        test("sunset is 0 to 1500", TermsBoundaryTests::sunsetIs0To1500);
        test("two cables and 1 tug at first", TermsBoundaryTests::twoCablesAndOneTugAtFirst);
        test("0 to 2 tugs", TermsBoundaryTests::tugsAre0To2);
    }

    private static void theList() {
        test("the list is in the order of asking", TermsBoundaryTests::listInTheOrderOfAsking);
        test("at most 30 on the list", TermsBoundaryTests::thirtyOnTheList);
        test("at most 100 all day, from 0", TermsBoundaryTests::hundredAllDay);
        test("a height is 0, or 200 to 1500", TermsBoundaryTests::heightIs0Or200To1500);
        test("minutes are 2 to 300", TermsBoundaryTests::minutesAre2To300);
    }

    private static void theReasons() {
        test("reason 1, a member flies", TermsBoundaryTests::reasonOneAMemberFlies);
        test("reason 1, until the landing", TermsBoundaryTests::reasonOneUntilTheLanding);
        test("reason 2, the glider flies or is barred", TermsBoundaryTests::reasonTwoTheGliderFliesOrIsBarred);
        test("reason 3, one seat", TermsBoundaryTests::reasonThreeOneSeat);
        test("reason 4, each level with each", TermsBoundaryTests::reasonFourByLevel);
        test("reason 4, until a lesson landed", TermsBoundaryTests::reasonFourUntilALessonOfTheSoloLanded);
        test("reason 4, what is no lesson", TermsBoundaryTests::reasonFourOtherFlightsAreNoLesson);
        test("reason 4, always for a STUDENT", TermsBoundaryTests::reasonFourAlwaysForAStudent);
        test("reason 5, the limit of the glider", TermsBoundaryTests::windAgainstTheGlider);
        test("reason 5, the limit of the commander", TermsBoundaryTests::windAgainstTheCommander);
        test("reason 6, less than 10 minutes", TermsBoundaryTests::lessThan10MinutesToSunset);
        test("reason 6, sunset at the end of time", TermsBoundaryTests::daylightToTheEndOfTime);
        test("reason 7, no cable", TermsBoundaryTests::noCable);
        test("reason 7, no tug", TermsBoundaryTests::noTug);
        test("reason 8, the field is busy", TermsBoundaryTests::theFieldIsBusy);
        test("the first of the reasons", TermsBoundaryTests::theFirstOfTheReasons);
    }

    private static void fieldCablesAndTugs() {
        test("the field is free at first", TermsBoundaryTests::fieldIsFreeAtFirst);
        test("busy for 2 minutes from a landing", TermsBoundaryTests::fieldIsBusyFor2MinutesFromALanding);
        test("busy for 2 minutes from a winch start", TermsBoundaryTests::fieldIsBusyFor2MinutesFromAWinchStart);
        test("busy for 3 minutes from a tug start", TermsBoundaryTests::fieldIsBusyFor3MinutesFromATugStart);
        test("starts wait for the field", TermsBoundaryTests::startsWaitForTheField);
        test("a single cable stays taken", TermsBoundaryTests::aSingleCableStaysTaken);
        test("both are free 10 minutes after the second", TermsBoundaryTests::bothCablesAreFree10MinutesAfterTheSecond);
        test("cables are taken again", TermsBoundaryTests::cablesAreTakenAgainWhenFree);
        test("a cable for the winch, a tug for a height", TermsBoundaryTests::eachStartTakesItsOwn);
        test("each tug is due by itself", TermsBoundaryTests::eachTugIsDueByItself);
        test("a tug is taken again", TermsBoundaryTests::aTugIsTakenAgainInTheMinuteInWhichItIsFree);
    }

    private static void tickAndCost() {
        test("minutes pass one after the other", TermsBoundaryTests::minutesPassOneAfterTheOther);
        test("began at least its minutes ago", TermsBoundaryTests::itsMinutesAreOverExactlyThen);
        test("the time is at least that of sunset", TermsBoundaryTests::theSunHasSetAtItsTime);
        test("if it was called", TermsBoundaryTests::aCalledGliderWaitsFromTheNextMinuteOn);
        test("a call counts for one flight", TermsBoundaryTests::aCallCountsForOneFlight);
        test("those of the same minute", TermsBoundaryTests::thoseOfTheSameMinuteInAscendingOrder);
        test("the one that has waited longest", TermsBoundaryTests::whoHasWaitedLongestLands);
        test("a landing comes before a start", TermsBoundaryTests::aLandingComesBeforeAStart);
        test("a start holds up a landing", TermsBoundaryTests::aStartHoldsUpALanding);
        test("the first that can begin does", TermsBoundaryTests::theFirstThatCanBeginDoes);
        test("on the ground from the landing on", TermsBoundaryTests::onTheGroundFromTheLandingOn);
        test("minutes count to the landing", TermsBoundaryTests::minutesFromTheBeginAreRightWhenItWaits);
        test("at most 180 minutes are paid for", TermsBoundaryTests::paidForAtMost180Minutes);
        test("the minutes flown are paid for", TermsBoundaryTests::paidForTheMinutesFlown);
        test("a flight that landed costs", TermsBoundaryTests::costsOnlyWhenLanded);
    }

    public static void main(String[] args) {
        whatItIsAndTime();
        membersAndGliders();
        theList();
        theReasons();
        fieldCablesAndTugs();
        tickAndCost();
        finish();
    }
}
