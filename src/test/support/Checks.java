/** What the tests share: how an answer is checked, how a call is refused, and clubs to begin with. */
abstract class Checks {
    protected static final Class<?> BOUNDS = IndexOutOfBoundsException.class;
    protected static final Class<?> ARGUMENT = IllegalArgumentException.class;
    protected static final Class<?> STATE = IllegalStateException.class;
    protected static final int STUDENT = 0;
    protected static final int SOLO = 1;
    protected static final int PILOT = 2;
    protected static final int TEACHER = 3;
    protected static final int MIN = Integer.MIN_VALUE;
    protected static final int MAX = Integer.MAX_VALUE;

    private static String current = "";
    private static int wrong = 0;
    private static int passed = 0;
    private static int failed = 0;

    protected interface Call {
        void run();
    }

    /** Runs one test; a test that breaks off has failed. */
    protected static void test(String name, Call body) {
        current = name;
        int before = wrong;
        try {
            body.run();
        } catch (RuntimeException e) {
            wrong("broke off with " + e);
        }
        if (wrong == before) {
            passed++;
        } else {
            failed++;
        }
    }

    /** Says how the tests went; a failed one ends the program with exit code 1. */
    protected static void finish() {
        System.out.println(passed + " passed, " + failed + " failed");
        if (failed != 0) {
            System.exit(1);
        }
    }

    private static void wrong(String what) {
        wrong++;
        System.out.println(current + ": " + what);
    }

    protected static void due(String what, long got, long want) {
        if (got != want) {
            wrong(what + " answered " + got + ", due is " + want);
        }
    }

    protected static void due(String what, boolean got, boolean want) {
        due(what, got ? 1 : 0, want ? 1 : 0);
    }

    protected static void dueMean(String what, double got, double want) {
        if (!(got == want)) {
            wrong(what + " answered " + got + ", due is " + want);
        }
    }

    /** The call throws exactly this class, by a throw of the class itself. */
    protected static void throwsBy(String what, Class<?> want, Call call) {
        Class<?> got = null;
        try {
            call.run();
        } catch (RuntimeException e) {
            got = e.getClass();
            String thrower = e.getStackTrace()[0].getClassName();
            due(what + " is refused by the class and not by " + thrower, isOfTheClass(thrower), true);
        }
        if (got != want) {
            wrong(what + " threw " + got + ", due is " + want);
        }
    }

    private static boolean isOfTheClass(String name) {
        return name.equals("GliderDay") || name.startsWith("GliderDay$");
    }

    /** The call throws exactly this class, and changes nothing that the digest tells. */
    protected static void refused(GliderDay day, String what, Class<?> want, Call call) {
        long before = day.digest();
        throwsBy(what, want, call);
        due(what + " leaves the digest", day.digest(), before);
    }

    protected static GliderDay withMembers(int... levels) {
        GliderDay day = new GliderDay();
        for (int level : levels) {
            day.addMember(level);
        }
        return day;
    }

    /** Members of these levels and three gliders: 0 and 1 with two seats, 2 with one. */
    protected static GliderDay club(int... levels) {
        GliderDay day = withMembers(levels);
        day.addGlider(2, 3, 40);
        day.addGlider(2, 5, 40);
        day.addGlider(1, 7, 40);
        return day;
    }

    protected static void counts(GliderDay day, int... want) {
        for (int what = 0; what < want.length; what++) {
            due("count(" + what + ")", day.count(what), want[what]);
        }
    }

    protected static void memberFacts(GliderDay day, int member, int... want) {
        for (int what = 0; what < want.length; what++) {
            due("member(" + member + ", " + what + ")", day.member(member, what), want[what]);
        }
    }

    protected static void gliderFacts(GliderDay day, int glider, int... want) {
        for (int what = 0; what < want.length; what++) {
            due("glider(" + glider + ", " + what + ")", day.glider(glider, what), want[what]);
        }
    }

    protected static void flightFacts(GliderDay day, int flight, int... want) {
        for (int what = 0; what < want.length; what++) {
            due("flight(" + flight + ", " + what + ")", day.flight(flight, what), want[what]);
        }
    }

    protected static void listIs(GliderDay day, int... want) {
        for (int place = 0; place < want.length; place++) {
            due("list(" + place + ")", day.list(place), want[place]);
        }
        due("list() behind its end", day.list(want.length), -1);
    }

    /** A lesson: the student flies with the teacher in glider 0 and is down again. */
    protected static void lessons(GliderDay day, int student, int teacher, int times) {
        for (int i = 0; i < times; i++) {
            day.ask(student, teacher, 0, 200, 2);
            day.tick(10);
        }
    }

    protected static void solos(GliderDay day, int member, int times) {
        for (int i = 0; i < times; i++) {
            day.ask(member, -1, 0, 200, 2);
            day.tick(10);
        }
    }
}
