/** Promises 9 to 18: days pass, convictions and courses come, are changed, undone and told of. */
public final class EventsTest {
    private static final int BAD = PointsOffice.BAD, NO = PointsOffice.NO;
    private static final int FULL = PointsOffice.FULL, NONE = PointsOffice.NONE, ZERO = PointsOffice.ZERO;
    private static final int MIN = Integer.MIN_VALUE, MAX = Integer.MAX_VALUE;
    private static final Check check = new Check();

    public static void main(String[] args) {
        pass();
        convict();
        convictFull();
        lightCourse();
        longCourse();
        courseWrong();
        strike();
        lower();
        redate();
        excuse();
        wrongConvictions();
        undoEveryKind();
        undoOnlySix();
        year();
        yearEdges();
        eventOfConviction();
        eventOfCourses();
        struckEvents();
        check.finish();
    }

    private static void pass() {
        check.part("promise 9");
        PointsOffice x = new PointsOffice();
        check.due("pass(0)", x.pass(0), 0);
        check.due("pass(-1)", x.pass(-1), BAD);
        check.due("pass(10000)", x.pass(10000), BAD);
        check.due("pass(MAX)", x.pass(MAX), BAD);
        check.due("pass(MIN)", x.pass(MIN), BAD);
        check.due("pass(9998)", x.pass(9998), 9998);
        check.due("pass(2)", x.pass(2), FULL);
        check.due("pass(9999)", x.pass(9999), FULL);
        check.due("pass(10000)", x.pass(10000), BAD);
        check.due("count(2)", x.count(2), 9998);
        check.due("pass(1)", x.pass(1), 9999);
        check.due("pass(0)", x.pass(0), 9999);
        check.due("pass(1)", x.pass(1), FULL);
        check.due("count(3)", x.count(3), 0);
        check.due("pass(9999) of a new one", new PointsOffice().pass(9999), 9999);
    }

    private static void convict() {
        check.part("promise 10");
        PointsOffice x = new PointsOffice();
        x.pass(7);
        int[][] bad = {{-1, 0, 0, 0}, {4, 0, 0, 0}, {0, -1, 0, 0}, {0, 8, 0, 0}, {0, 0, -1, 0}, {0, 0, 4, 0},
            {0, 0, 0, -1}, {0, 0, 0, 2}, {MAX, 0, 0, 0}, {0, MIN, 0, 0}, {0, 0, MAX, 0}, {0, 0, 0, MAX}};
        for (int[] a : bad) {
            check.due("convict with a wrong number", x.convict(a[0], a[1], a[2], a[3]), BAD);
        }
        check.due("count(1)", x.count(1), 0);
        check.due("count(3)", x.count(3), 0);
        check.due("convict(0, 0, 0, 0)", x.convict(0, 0, 0, 0), 0);
        check.due("convict(3, 7, 3, 1)", x.convict(3, 7, 3, 1), 1);
        check.due("convict(3, 8, 3, 1)", x.convict(3, 8, 3, 1), BAD);
        check.due("count(1)", x.count(1), 2);
        check.due("count(3)", x.count(3), 2);
    }

    private static void convictFull() {
        check.part("promise 10: FULL");
        PointsOffice x = new PointsOffice();
        for (int e = 0; e < 40; e++) {
            check.due("convict", x.convict(e % 4, 0, 0, 1), e);
        }
        check.due("convict, 40 there", x.convict(0, 0, 0, 0), FULL);
        check.due("convict, wrong code", x.convict(0, 0, 4, 0), BAD);
        check.due("count(1)", x.count(1), 40);
        check.due("count(3)", x.count(3), 6);
        check.due("undo()", x.undo(), 5);
        check.due("convict", x.convict(0, 0, 0, 0), 39);
        check.due("convict", x.convict(0, 0, 0, 0), FULL);
    }

    private static void lightCourse() {
        check.part("promise 11: light");
        PointsOffice x = new PointsOffice();
        check.due("course(0, 0)", x.course(0, 0), 0);
        check.due("course(0, 0)", x.course(0, 0), NO);
        check.due("course(1, 0)", x.course(1, 0), 1);
        x.pass(59);
        check.due("course(0, 0) on 59", x.course(0, 0), NO);
        x.rule(0, 59);
        check.due("course(0, 0) with 59", x.course(0, 0), 2);
        x.undo();
        x.undo();
        check.due("course(0, 0) with 60", x.course(0, 0), NO);
        x.pass(1);
        check.due("course(0, 0) on 60", x.course(0, 0), 2);
        x.convict(0, 60, 3, 0);
        x.convict(0, 60, 3, 0);
        check.due("event(2, 9)", x.event(2, 9), 1);
        check.due("course(0, 0), one spent", x.course(0, 0), NO);
        check.due("count(1)", x.count(1), 5);
    }

    private static void longCourse() {
        check.part("promise 11: long");
        PointsOffice x = new PointsOffice();
        x.pass(10);
        check.due("course(0, 1) without a ban", x.course(0, 1), NO);
        check.due("count(1)", x.count(1), 0);
        x.convict(0, 10, 3, 0);
        check.due("course(1, 1), another's ban", x.course(1, 1), NO);
        x.pass(19);
        check.due("course(0, 1) on its last day", x.course(0, 1), 1);
        check.due("ban(0, 0, 1)", x.ban(0, 0, 1), 20);
        check.due("ban(0, 0, 4)", x.ban(0, 0, 4), 1);
        check.due("course(0, 1), short already", x.course(0, 1), NO);
        check.due("undo()", x.undo(), 1);
        x.pass(1);
        check.due("course(0, 1) behind it", x.course(0, 1), NO);
        check.due("course(0, 0), light", x.course(0, 0), 1);
        check.due("a long one is no light one", x.course(0, 0), NO);
    }

    private static void courseWrong() {
        check.part("promise 11: wrong and FULL");
        PointsOffice x = new PointsOffice();
        int[][] bad = {{-1, 0}, {4, 0}, {0, -1}, {0, 2}, {MAX, 0}, {0, MIN}};
        for (int[] a : bad) {
            check.due("course with a wrong number", x.course(a[0], a[1]), BAD);
        }
        for (int e = 0; e < 40; e++) {
            x.convict(0, 0, 0, 1);
        }
        check.due("course(0, 0)", x.course(0, 0), FULL);
        check.due("course(0, 1), void too", x.course(0, 1), FULL);
        check.due("course(4, 0)", x.course(4, 0), BAD);
        x.undo();
        check.due("course(0, 1)", x.course(0, 1), NO);
        check.due("course(0, 0)", x.course(0, 0), 39);
    }

    private static void strike() {
        check.part("promise 12");
        PointsOffice x = new PointsOffice();
        x.pass(100);
        x.convict(0, 100, 3, 0);
        x.convict(0, 100, 0, 0);
        x.convict(1, 100, 3, 0);
        // the second is DOUBLE: 9 and 6 bring a great ban behind the own one
        check.due("days", x.days(0, 0, 99999), 30);
        check.due("strike(1)", x.strike(1), ZERO - 10);
        check.due("strike(1) again", x.strike(1), NO);
        check.due("strike(0)", x.strike(0), ZERO - 20);
        check.due("days of another", x.days(1, 0, 99999), 20);
        check.due("undo()", x.undo(), 4);
        check.due("days", x.days(0, 0, 99999), 20);
        check.due("undo()", x.undo(), 3);
        check.due("days", x.days(0, 0, 99999), 30);
        check.due("event(1, 7)", x.event(1, 7), 0);
    }

    private static void lower() {
        check.part("promise 13");
        PointsOffice x = new PointsOffice();
        x.convict(2, 0, 1, 0);
        x.convict(2, 0, 1, 0);
        check.due("days", x.days(2, 0, 99999), 10);
        check.due("lower(1, 6)", x.lower(1, 6), NO);
        check.due("lower(1, 8)", x.lower(1, 8), NO);
        check.due("lower(1, -1)", x.lower(1, -1), BAD);
        check.due("lower(1, 9)", x.lower(1, 9), BAD);
        check.due("lower(1, 5)", x.lower(1, 5), ZERO - 10);
        check.due("event(1, 5)", x.event(1, 5), 5);
        check.due("sum(2, 0)", x.sum(2, 0), 11);
        check.due("lower(1, 0)", x.lower(1, 0), ZERO);
        check.due("sum(2, 0)", x.sum(2, 0), 6);
        check.due("lower(1, 0)", x.lower(1, 0), NO);
        check.due("code(1, 0)", x.code(1, 0), 6);
        x.convict(2, 0, 3, 0);
        check.due("lower(2, 8)", x.lower(2, 8), ZERO);
        x.strike(0);
        check.due("lower(0, 1), struck", x.lower(0, 1), NO);
        check.due("lower(0, 9), struck", x.lower(0, 9), BAD);
    }

    private static void redate() {
        check.part("promise 14");
        PointsOffice x = new PointsOffice();
        x.pass(100);
        x.convict(3, 41, 1, 0);
        x.convict(3, 100, 1, 0);
        x.pass(50);
        check.due("days", x.days(3, 0, 99999), 10);
        check.due("redate(0, 41)", x.redate(0, 41), NO);
        check.due("redate(0, 40)", x.redate(0, 40), ZERO - 10);
        check.due("event(0, 3)", x.event(0, 3), 40);
        check.due("redate(0, 100)", x.redate(0, 100), ZERO + 10);
        check.due("redate(0, 101)", x.redate(0, 101), BAD);
        check.due("redate(0, -1)", x.redate(0, -1), BAD);
        check.due("redate(0, MAX)", x.redate(0, MAX), BAD);
        check.due("redate(0, 0)", x.redate(0, 0), ZERO - 10);
        check.due("event(0, 1)", x.event(0, 1), 100);
        x.strike(0);
        check.due("redate(0, 41), struck", x.redate(0, 41), NO);
        check.due("redate(0, 101), struck", x.redate(0, 101), BAD);
    }

    private static void excuse() {
        check.part("promise 15");
        PointsOffice x = new PointsOffice();
        x.convict(0, 0, 1, 0);
        x.convict(0, 0, 1, 0);
        check.due("excuse(1)", x.excuse(1), ZERO - 10);
        check.due("event(1, 6)", x.event(1, 6), 1);
        check.due("sum(0, 0)", x.sum(0, 0), 12);
        check.due("event(0, 9)", x.event(0, 9), 0);
        check.due("excuse(1)", x.excuse(1), ZERO + 10);
        check.due("event(1, 6)", x.event(1, 6), 0);
        check.due("excuse(0)", x.excuse(0), ZERO);
        x.convict(0, 0, 3, 0);
        // double, 18 by itself: its great ban is 20 days behind its own 20
        check.due("own ban stays", x.excuse(2), ZERO - 20);
        check.due("ban(0, 1, 1)", x.ban(0, 1, 1), 20);
        x.strike(0);
        check.due("excuse(0), struck", x.excuse(0), NO);
    }

    private static void wrongConvictions() {
        check.part("promises 12 to 15: no such conviction");
        PointsOffice x = new PointsOffice();
        x.convict(0, 0, 3, 0);
        x.course(0, 0);
        x.course(0, 1);
        int[] none = {-1, 1, 2, 3, 40, 41, MIN, MAX};
        for (int e : none) {
            check.due("strike(" + e + ")", x.strike(e), BAD);
            check.due("lower(" + e + ", 1)", x.lower(e, 1), BAD);
            check.due("redate(" + e + ", 0)", x.redate(e, 0), BAD);
            check.due("excuse(" + e + ")", x.excuse(e), BAD);
        }
        check.due("count(3)", x.count(3), 3);
    }

    private static void undoEveryKind() {
        check.part("promise 16");
        PointsOffice x = new PointsOffice();
        x.pass(30);
        x.convict(0, 20, 1, 0);
        x.lower(0, 5);
        x.redate(0, 10);
        x.excuse(0);
        x.rule(5, 17);
        x.strike(0);
        x.pass(3);
        check.due("undo() of strike", x.undo(), 5);
        check.due("event(0, 7)", x.event(0, 7), 0);
        check.due("count(10)", x.count(10), 17);
        check.due("undo() of rule", x.undo(), 4);
        check.due("count(10)", x.count(10), 90);
        check.due("event(0, 6)", x.event(0, 6), 1);
        check.due("undo() of excuse", x.undo(), 3);
        check.due("event(0, 6)", x.event(0, 6), 0);
        check.due("event(0, 3)", x.event(0, 3), 10);
        check.due("undo() of redate", x.undo(), 2);
        check.due("event(0, 3)", x.event(0, 3), 20);
        check.due("event(0, 5)", x.event(0, 5), 5);
        check.due("undo() of lower", x.undo(), 1);
        check.due("event(0, 5)", x.event(0, 5), 6);
        check.due("undo() of convict", x.undo(), 0);
        check.due("count(1)", x.count(1), 0);
        check.due("undo()", x.undo(), NO);
        check.due("count(2)", x.count(2), 33);
        x.course(0, 0);
        check.due("undo() of course", x.undo(), 0);
        check.due("course(0, 0)", x.course(0, 0), 0);
    }

    private static void undoOnlySix() {
        check.part("promise 16: six");
        PointsOffice x = new PointsOffice();
        for (int number = 1; number <= 8; number++) {
            x.rule(1, number);
        }
        check.due("count(3)", x.count(3), 6);
        for (int left = 5; left >= 0; left--) {
            check.due("undo()", x.undo(), left);
            check.due("count(6)", x.count(6), left + 2);
        }
        check.due("undo()", x.undo(), NO);
        check.due("count(6)", x.count(6), 2);
        x.rule(1, 12);
        check.due("undo()", x.undo(), 0);
        check.due("count(6)", x.count(6), 2);
    }

    private static void year() {
        check.part("promise 17");
        PointsOffice x = new PointsOffice();
        int z = 9999;
        check.due("year(9999, 20)", x.year(z, 20), 20);
        int today = 0;
        for (int k = 0; k < 20; k++) {
            long y = 7919L * z + 6151L * k + 1;
            int draw = (int) (y * y % 65521);
            today += draw % 16;
            check.due("event(" + k + ", 0)", x.event(k, 0), draw / 16 % 4);
            check.due("event(" + k + ", 1)", x.event(k, 1), today);
            check.due("event(" + k + ", 2)", x.event(k, 2), 0);
            check.due("event(" + k + ", 3)", x.event(k, 3), Math.max(0, today - draw / 256 % 32));
            check.due("event(" + k + ", 4)", x.event(k, 4), draw / 64 % 4);
            check.due("event(" + k + ", 6)", x.event(k, 6), 0);
        }
        check.due("count(2)", x.count(2), today);
        check.due("count(3)", x.count(3), 6);
        check.due("undo()", x.undo(), 5);
        check.due("count(1)", x.count(1), 19);
        check.due("count(2)", x.count(2), today);
        PointsOffice three = Check.laid("k100;k200;k300;");
        three.year(5, 20);
        for (int k = 0; k < 20; k++) {
            long y = 7919L * 5 + 6151L * k + 1;
            check.due("event(" + k + ", 4)", three.event(k, 4), y * y % 65521 / 64 % 3);
        }
    }

    private static void yearEdges() {
        check.part("promise 17: edges");
        PointsOffice x = new PointsOffice();
        int[][] bad = {{-1, 1}, {10000, 1}, {0, 0}, {0, 21}, {0, -1}, {MAX, 1}, {MIN, 1}, {0, MAX}, {0, MIN}};
        for (int[] a : bad) {
            check.due("year with a wrong number", x.year(a[0], a[1]), BAD);
        }
        check.due("count(1)", x.count(1), 0);
        check.due("count(2)", x.count(2), 0);
        check.due("year(0, 1)", x.year(0, 1), 1);
        // DRAW is 1: a day later, driver 0, code 0, the offence on that day
        check.due("event(0, 0)", x.event(0, 0), 0);
        check.due("event(0, 1)", x.event(0, 1), 1);
        check.due("event(0, 3)", x.event(0, 3), 1);
        x.year(1, 19);
        check.due("year(2, 19)", x.year(2, 19), 19);
        int today = x.count(2);
        check.due("year(0, 20), room for one", x.year(0, 20), 1);
        check.due("days pass without room", x.count(2) > today + 1 ? 1 : 0, 1);
        PointsOffice late = new PointsOffice();
        late.pass(9990);
        check.due("year(3, 20)", late.year(3, 20), 20);
        check.due("count(2)", late.count(2), 9999);
        check.due("event(19, 1)", late.event(19, 1), 9999);
    }

    private static void eventOfConviction() {
        check.part("promise 18");
        PointsOffice x = new PointsOffice();
        x.pass(20);
        x.convict(2, 15, 2, 1);
        int[] told = {2, 20, 0, 15, 2, 4, 1, 0, 0, 0, NONE};
        for (int what = 0; what < told.length; what++) {
            check.due("event(0, " + what + ")", x.event(0, what), told[what]);
        }
        int[][] bad = {{-1, 0}, {1, 0}, {40, 0}, {0, -1}, {0, 11}, {MAX, 0}, {MIN, 0}, {0, MAX}, {0, MIN}};
        for (int[] a : bad) {
            check.due("event(" + a[0] + ", " + a[1] + ")", x.event(a[0], a[1]), BAD);
        }
        x.convict(2, 20, 3, 0);
        check.due("event(1, 8)", x.event(1, 8), 1);
        check.due("event(0, 9)", x.event(0, 9), 1);
        check.due("event(1, 9)", x.event(1, 9), 1);
    }

    private static void eventOfCourses() {
        check.part("promise 18: courses");
        PointsOffice x = new PointsOffice();
        x.pass(3);
        x.convict(1, 3, 3, 0);
        x.course(1, 0);
        x.course(1, 1);
        int[] light = {1, 3, 1, NONE, NONE, NONE, NONE, NONE, NONE, 0, NONE};
        int[] drawn = {1, 3, 2, NONE, NONE, NONE, NONE, NONE, NONE, 0, 0};
        for (int what = 0; what < light.length; what++) {
            check.due("event(1, " + what + ")", x.event(1, what), light[what]);
            check.due("event(2, " + what + ")", x.event(2, what), drawn[what]);
        }
        check.due("event(1, 11)", x.event(1, 11), BAD);
        x.strike(0);
        check.due("event(2, 10), void now", x.event(2, 10), 1);
        x.undo();
        check.due("event(2, 10)", x.event(2, 10), 0);
        x.convict(1, 3, 1, 0);
        check.due("event(1, 9)", x.event(1, 9), 1);
        check.due("event(2, 9)", x.event(2, 9), 1);
        x.course(2, 0);
        check.due("event(4, 9)", x.event(4, 9), 0);
    }

    private static void struckEvents() {
        check.part("promise 18: struck");
        PointsOffice x = new PointsOffice();
        x.convict(0, 0, 3, 0);
        x.convict(0, 0, 0, 1);
        check.due("event(1, 8)", x.event(1, 8), 1);
        x.strike(1);
        check.due("event(1, 7)", x.event(1, 7), 1);
        check.due("event(1, 8), struck", x.event(1, 8), 0);
        check.due("event(1, 9)", x.event(1, 9), 0);
        x.convict(0, 0, 1, 0);
        // all his convictions so far are SPENT, and a struck one is one of them
        check.due("event(1, 9), spent", x.event(1, 9), 1);
    }
}
