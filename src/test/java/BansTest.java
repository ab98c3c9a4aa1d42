/** Promises 19 to 27: sums, bans, what one more offence would bring, who sees what, counts. */
public final class BansTest {
    private static final int BAD = PointsOffice.BAD, NO = PointsOffice.NO, NONE = PointsOffice.NONE;
    private static final int MIN = Integer.MIN_VALUE, MAX = Integer.MAX_VALUE;
    private static final Check check = new Check();

    public static void main(String[] args) {
        sumOfWindows();
        sumLessCourses();
        sumWrong();
        need();
        needBelowNothing();
        would();
        wouldChangesNothing();
        banned();
        days();
        free();
        ban();
        banWrong();
        lengthByMemory();
        queue();
        longCourses();
        doubles();
        mostBans();
        manyGaps();
        shortOwnBan();
        seen();
        seenWrong();
        counts();
        check.finish();
    }

    private static void sumOfWindows() {
        check.part("promise 19");
        PointsOffice x = Check.laid("w010;l99;k300;k500;k900;");
        x.pass(200);
        x.convict(0, 100, 0, 0);
        x.convict(0, 109, 1, 0);
        x.convict(0, 110, 2, 0);
        check.due("sum(0, 90)", x.sum(0, 90), 0);
        check.due("sum(0, 91)", x.sum(0, 91), 3);
        check.due("sum(0, 99)", x.sum(0, 99), 3);
        check.due("sum(0, 100)", x.sum(0, 100), 8);
        check.due("sum(0, 101)", x.sum(0, 101), 14);
        check.due("sum(0, 105)", x.sum(0, 105), 14);
        check.due("sum(0, 118)", x.sum(0, 118), 14);
        check.due("sum(0, 119)", x.sum(0, 119), 9);
        check.due("sum(0, 120)", x.sum(0, 120), 0);
        check.due("sum(1, 105)", x.sum(1, 105), 0);
        check.due("sum(0, 0)", x.sum(0, 0), 0);
        check.due("sum(0, 9999)", x.sum(0, 9999), 0);
        x.strike(2);
        check.due("sum(0, 105)", x.sum(0, 105), 8);
        x.convict(1, 0, 1, 0);
        check.due("a window that begins ahead of day 0", x.sum(1, 0), 5);
        x.rule(0, 1);
        check.due("sum(0, 109) of one day", x.sum(0, 109), 5);
        check.due("sum(0, 108) of one day", x.sum(0, 108), 0);
    }

    private static void sumLessCourses() {
        check.part("promise 19: courses");
        PointsOffice x = Check.laid("w010;l99;k100;k500;");
        x.pass(20);
        x.course(0, 0);
        check.due("0 at least", x.sum(0, 20), 0);
        x.convict(0, 20, 0, 0);
        check.due("0 at least", x.sum(0, 20), 0);
        x.convict(0, 20, 1, 0);
        check.due("sum(0, 20)", x.sum(0, 20), 3);
        x.pass(10);
        x.convict(0, 30, 1, 0);
        check.due("sum(0, 20) with 5 at hand", x.sum(0, 20), 3);
        check.due("sum(0, 21) without the course", x.sum(0, 21), 5);
        x.course(1, 0);
        check.due("another's course", x.sum(0, 30), 5);
        x.rule(1, 5);
        check.due("all spent", x.sum(0, 30), 0);
        check.due("event(0, 9)", x.event(0, 9), 1);
    }

    private static void sumWrong() {
        check.part("promises 19 to 24: wrong numbers");
        PointsOffice x = new PointsOffice();
        int[] drivers = {-1, 4, MIN, MAX};
        for (int d : drivers) {
            check.due("sum(" + d + ", 0)", x.sum(d, 0), BAD);
            check.due("need(" + d + ")", x.need(d), BAD);
            check.due("would(" + d + ", 0, 0)", x.would(d, 0, 0), BAD);
            check.due("banned(" + d + ", 0)", x.banned(d, 0), BAD);
            check.due("days(" + d + ", 0, 0)", x.days(d, 0, 0), BAD);
            check.due("free(" + d + ")", x.free(d), BAD);
        }
        int[] days = {-1, 10000, MIN, MAX};
        for (int day : days) {
            check.due("sum(0, " + day + ")", x.sum(0, day), BAD);
        }
        int[] later = {-1, 100000, MIN, MAX};
        for (int day : later) {
            check.due("banned(0, " + day + ")", x.banned(0, day), BAD);
            check.due("days(0, " + day + ", 9)", x.days(0, day, 9), BAD);
            check.due("days(0, 0, " + day + ")", x.days(0, 0, day), BAD);
        }
        x.pass(6);
        check.due("would(0, -1, 0)", x.would(0, -1, 0), BAD);
        check.due("would(0, 7, 0)", x.would(0, 7, 0), BAD);
        check.due("would(0, 0, -1)", x.would(0, 0, -1), BAD);
        check.due("would(0, 0, 4)", x.would(0, 0, 4), BAD);
        check.due("would(0, 6, 3)", x.would(0, 6, 3), 20);
        check.due("days(0, 7, 6)", x.days(0, 7, 6), BAD);
        check.due("days(0, 6, 6)", x.days(0, 6, 6), 0);
    }

    private static void need() {
        check.part("promise 20");
        PointsOffice x = new PointsOffice();
        check.due("need(0)", x.need(0), 12);
        x.convict(0, 0, 0, 0);
        check.due("need(0)", x.need(0), 9);
        x.pass(59);
        check.due("need(0) on 59", x.need(0), 9);
        x.pass(1);
        check.due("need(0) on 60", x.need(0), 12);
        x.convict(0, 60, 3, 0);
        check.due("need(0), double", x.need(0), 2);
        x.rule(1, 99);
        check.due("need(0), half of 90", x.need(0), 45);
        x.rule(1, 98);
        check.due("need(0), half of 89 and a bit", x.need(0), 45);
        x.rule(1, 12);
        x.convict(0, 60, 1, 1);
        check.due("need(0), 12 there already", x.need(0), 1);
        check.due("need(1)", x.need(1), 12);
        x.rule(1, 99);
        check.due("need(1) of 99", x.need(1), 99);
        x.rule(1, 1);
        check.due("need(1) of 1", x.need(1), 1);
    }

    private static void needBelowNothing() {
        check.part("promise 20: courses outweigh");
        PointsOffice x = new PointsOffice();
        x.course(0, 0);
        check.due("need(0)", x.need(0), 15);
        x.rule(1, 96);
        check.due("need(0) of 96", x.need(0), 99);
        x.rule(1, 97);
        check.due("need(0) of 97", x.need(0), NONE);
        x.pass(60);
        check.due("need(0) without the course", x.need(0), 97);
        x.undo();
        x.undo();
        x.course(0, 0);
        x.rule(0, 999);
        check.due("need(0), a window without the first course", x.need(0), 15);
    }

    private static void would() {
        check.part("promise 21");
        PointsOffice x = new PointsOffice();
        x.pass(100);
        check.due("would(0, 100, 0)", x.would(0, 100, 0), 0);
        check.due("would(0, 100, 2)", x.would(0, 100, 2), 5);
        x.convict(0, 100, 3, 0);
        check.due("inside the ban that is", x.would(0, 41, 0), 10);
        check.due("plain one inside another", x.would(0, 40, 2), 0);
        check.due("double", x.would(0, 100, 0), 10);
        x.pass(15);
        check.due("partly inside", x.would(0, 0, 3), 15);
        check.due("own and great", x.would(0, 99, 3), 25);
        check.due("another driver", x.would(1, 99, 3), 20);
    }

    private static void wouldChangesNothing() {
        check.part("promise 21: nothing changes");
        PointsOffice x = new PointsOffice();
        for (int e = 0; e < 39; e++) {
            x.convict(e % 2, 0, 0, 1);
        }
        x.convict(2, 0, 1, 0);
        check.due("would(0, 0, 3), 40 there", x.would(0, 0, 3), 30);
        check.due("count(1)", x.count(1), 40);
        check.due("count(3)", x.count(3), 6);
        check.due("count(11)", x.count(11), 0);
        check.due("event(0, 9)", x.event(0, 9), 0);
        check.due("event(40, 0)", x.event(40, 0), BAD);
        check.due("days(0, 0, 99999)", x.days(0, 0, 99999), 0);
        check.due("sum(0, 0)", x.sum(0, 0), 60);
        check.due("would(2, 0, 1)", x.would(2, 0, 1), 10);
        check.due("event(39, 9)", x.event(39, 9), 0);
    }

    private static void banned() {
        check.part("promise 22");
        PointsOffice x = new PointsOffice();
        x.pass(9999);
        x.convict(1, 9999, 3, 0);
        check.due("banned(1, 9998)", x.banned(1, 9998), 0);
        check.due("banned(1, 9999)", x.banned(1, 9999), 1);
        check.due("banned(1, 10018)", x.banned(1, 10018), 1);
        check.due("banned(1, 10019)", x.banned(1, 10019), 0);
        check.due("banned(1, 99999)", x.banned(1, 99999), 0);
        check.due("banned(1, 0)", x.banned(1, 0), 0);
        check.due("banned(0, 9999)", x.banned(0, 9999), 0);
    }

    private static void days() {
        check.part("promise 23");
        PointsOffice x = new PointsOffice();
        x.pass(10);
        x.convict(0, 10, 2, 0);
        x.pass(20);
        x.convict(0, 20, 3, 0);
        x.pass(10);
        x.convict(0, 20, 3, 1);
        // bans 10 to 14, 30 to 49, a great one 50 to 59 by 4 and 9, then 40 to 59
        check.due("days(0, 0, 99999)", x.days(0, 0, 99999), 35);
        check.due("days(0, 10, 14)", x.days(0, 10, 14), 5);
        check.due("days(0, 14, 30)", x.days(0, 14, 30), 2);
        check.due("days(0, 15, 29)", x.days(0, 15, 29), 0);
        check.due("days(0, 12, 12)", x.days(0, 12, 12), 1);
        check.due("days(0, 45, 55)", x.days(0, 45, 55), 11);
        check.due("days(0, 59, 60)", x.days(0, 59, 60), 1);
        check.due("days(0, 60, 99999)", x.days(0, 60, 99999), 0);
        check.due("days(1, 0, 99999)", x.days(1, 0, 99999), 0);
        check.due("days(0, 99999, 99999)", x.days(0, 99999, 99999), 0);
    }

    private static void free() {
        check.part("promise 24");
        PointsOffice x = new PointsOffice();
        x.pass(10);
        check.due("free(0)", x.free(0), 10);
        x.convict(0, 10, 3, 0);
        x.convict(0, 10, 0, 0);
        check.due("free(0), one behind the other", x.free(0), 40);
        check.due("free(1)", x.free(1), 10);
        x.pass(29);
        check.due("free(0) on 39", x.free(0), 40);
        x.pass(1);
        check.due("free(0) on 40", x.free(0), 40);
        x.pass(1);
        check.due("free(0) on 41", x.free(0), 41);
    }

    private static void ban() {
        check.part("promise 25");
        PointsOffice x = new PointsOffice();
        x.pass(5);
        x.convict(1, 0, 3, 0);
        x.convict(0, 0, 0, 0);
        x.convict(1, 5, 2, 0);
        int[][] told = {{5, 20, 0, 0, 0}, {5, 5, 2, 0, 0}, {25, 10, 2, 1, 0}};
        check.due("ban(1, -1, 0)", x.ban(1, -1, 0), 3);
        for (int i = 0; i < told.length; i++) {
            for (int what = 0; what < 5; what++) {
                check.due("ban(1, " + i + ", " + what + ")", x.ban(1, i, what), told[i][what]);
            }
        }
        x.course(1, 1);
        check.due("ban(1, 0, 1)", x.ban(1, 0, 1), 15);
        check.due("ban(1, 0, 4)", x.ban(1, 0, 4), 1);
        check.due("ban(1, 1, 4)", x.ban(1, 1, 4), 0);
        check.due("ban(1, 2, 0), stays as it was given", x.ban(1, 2, 0), 25);
        check.due("count(11)", x.count(11), 3);
    }

    private static void banWrong() {
        check.part("promise 25: wrong numbers");
        PointsOffice x = new PointsOffice();
        x.convict(0, 0, 3, 0);
        int[][] bad = {{-1, 0, 0}, {4, 0, 0}, {0, -2, 0}, {0, MIN, 0}, {0, 0, -1}, {0, 0, 5}, {0, 1, 5}, {0, -1, 5},
            {0, -1, -1}, {MAX, 0, 0}, {0, 0, MAX}};
        for (int[] a : bad) {
            check.due("ban(" + a[0] + ", " + a[1] + ", " + a[2] + ")", x.ban(a[0], a[1], a[2]), BAD);
        }
        check.due("ban(0, 1, 0)", x.ban(0, 1, 0), NONE);
        check.due("ban(0, MAX, 0)", x.ban(0, MAX, 0), NONE);
        check.due("ban(1, 0, 0)", x.ban(1, 0, 0), NONE);
        check.due("ban(1, -1, 4)", x.ban(1, -1, 4), 0);
        check.due("ban(0, -1, 4)", x.ban(0, -1, 4), 1);
    }

    private static void lengthByMemory() {
        check.part("great bans by memory");
        PointsOffice x = Check.laid("w001;l05;b07;m020;k500;k399;");
        x.pass(100);
        x.convict(0, 50, 0, 0);
        x.convict(1, 50, 0, 0);
        check.due("B", x.ban(0, 0, 1), 7);
        x.pass(21);
        x.convict(0, 51, 0, 0);
        check.due("B, the other forgotten", x.ban(0, 1, 1), 7);
        x.pass(20);
        x.convict(0, 52, 0, 0);
        check.due("2 B on the last day of memory", x.ban(0, 2, 1), 14);
        x.convict(0, 53, 0, 0);
        check.due("4 B", x.ban(0, 3, 1), 28);
        x.convict(0, 54, 0, 0);
        check.due("4 B again", x.ban(0, 4, 1), 28);
        check.due("behind the others", x.ban(0, 4, 0), 141 + 14 + 28);
        x.rule(3, 0);
        check.due("B without memory", x.ban(0, 2, 1), 7);
        check.due("2 B on the same day", x.ban(0, 3, 1), 14);
        x.convict(2, 60, 1, 0);
        x.convict(2, 61, 0, 0);
        check.due("plain bans are not remembered", x.ban(2, 1, 1), 7);
    }

    private static void queue() {
        check.part("first days");
        PointsOffice x = Check.laid("w010;l09;b10;k920;k305;k900;");
        x.pass(30);
        x.convict(0, 10, 0, 0);
        check.due("own ban at once", x.ban(0, 0, 0), 30);
        check.due("great one behind", x.ban(0, 1, 0), 50);
        x.pass(3);
        x.convict(0, 0, 1, 0);
        check.due("own ban at once", x.ban(0, 2, 0), 33);
        x.pass(27);
        check.due("free(0)", x.free(0), 60);
        x.convict(0, 25, 2, 0);
        check.due("the last one ended the day ahead", x.ban(0, 3, 0), 60);
        x.convict(0, 0, 2, 0);
        check.due("behind one that goes on", x.ban(0, 4, 0), 80);
        x.strike(0);
        check.due("all moves up", x.ban(0, 1, 0), 60);
        check.due("and is shorter", x.ban(0, 1, 1), 10);
    }

    private static void longCourses() {
        check.part("long courses");
        PointsOffice x = Check.laid("w010;l99;b10;k110;k107;k103;k120;");
        x.convict(0, 0, 0, 0);
        x.course(0, 1);
        check.due("10 less 2", x.ban(0, 0, 1), 8);
        x.convict(1, 0, 1, 0);
        x.course(1, 1);
        check.due("7 less 1", x.ban(1, 0, 1), 6);
        x.convict(2, 0, 2, 0);
        x.course(2, 1);
        check.due("3 less 0", x.ban(2, 0, 1), 3);
        check.due("short all the same", x.ban(2, 0, 4), 1);
        x.convict(3, 0, 3, 0);
        x.convict(3, 0, 0, 0);
        x.convict(3, 0, 3, 0);
        x.pass(17);
        x.course(3, 1);
        check.due("the one given last", x.ban(3, 2, 1), 18);
        check.due("not the first", x.ban(3, 0, 4), 0);
        x.course(3, 1);
        check.due("then the first", x.ban(3, 0, 1), 18);
        check.due("day 17 stays", x.banned(3, 17), 1);
        check.due("no more", x.course(3, 1), NO);
    }

    private static void doubles() {
        check.part("double offences");
        PointsOffice x = new PointsOffice();
        x.pass(50);
        x.convict(0, 50, 3, 0);
        check.due("not by its own ban", x.event(0, 8), 0);
        x.convict(0, 49, 0, 1);
        check.due("a day ahead of the ban", x.event(1, 8), 0);
        x.convict(0, 50, 0, 1);
        check.due("the ban's first day", x.event(2, 8), 1);
        x.pass(20);
        x.convict(0, 69, 0, 1);
        check.due("the ban's last day", x.event(3, 8), 1);
        x.convict(0, 70, 0, 1);
        check.due("a day behind", x.event(4, 8), 0);
        check.due("points stay", x.event(2, 5), 3);
        check.due("sum(0, 60)", x.sum(0, 60), 9 + 3 + 6 + 6 + 3);
        x.strike(0);
        check.due("no ban, not double", x.event(2, 8), 0);
        check.due("sum(0, 60)", x.sum(0, 60), 12);
    }

    private static void mostBans() {
        check.part("as many bans as there can be");
        PointsOffice x = Check.laid("w001;l01;b99;m999;k999;");
        x.pass(9999);
        for (int e = 0; e < 40; e++) {
            check.due("convict", x.convict(0, 9999, 0, 0), e);
        }
        int all = 99 + 99 + 198 + 38 * 396;
        check.due("count(11)", x.count(11), 80);
        check.due("ban(0, -1, 0)", x.ban(0, -1, 0), 80);
        check.due("ban(0, 79, 0)", x.ban(0, 79, 0), 9999 + all - 396);
        check.due("ban(0, 79, 1)", x.ban(0, 79, 1), 396);
        check.due("ban(0, 79, 2)", x.ban(0, 79, 2), 39);
        check.due("ban(0, 80, 0)", x.ban(0, 80, 0), NONE);
        check.due("days", x.days(0, 0, 99999), all);
        check.due("free(0)", x.free(0), 9999 + all);
        check.due("would(0, 9999, 0)", x.would(0, 9999, 0), 396);
        check.due("would(1, 9999, 0)", x.would(1, 9999, 0), 198);
        check.due("count(11)", x.count(11), 80);
    }

    private static void manyGaps() {
        check.part("bans with gaps");
        PointsOffice x = Check.laid("w001;l99;k102;");
        for (int e = 0; e < 40; e++) {
            x.convict(0, 0, 0, 0);
            x.pass(3);
        }
        check.due("days(0, 0, 99999)", x.days(0, 0, 99999), 80);
        check.due("days(0, 1, 117)", x.days(0, 1, 117), 78);
        check.due("days(0, 2, 2)", x.days(0, 2, 2), 0);
        check.due("would(0, 120, 0)", x.would(0, 120, 0), 2);
    }

    private static void shortOwnBan() {
        check.part("an own ban of a day");
        PointsOffice x = Check.laid("w001;l99;k101;");
        x.convict(0, 0, 0, 0);
        check.due("ban(0, 0, 1)", x.ban(0, 0, 1), 1);
        check.due("days(0, 0, 99999)", x.days(0, 0, 99999), 1);
        check.due("course(0, 1)", x.course(0, 1), 1);
        check.due("ban(0, 0, 1)", x.ban(0, 0, 1), 1);
        check.due("ban(0, 0, 4)", x.ban(0, 0, 4), 1);
    }

    private static void seen() {
        check.part("promise 26");
        PointsOffice x = Check.laid("w010;l12;s020015;k300;k500;k900;");
        for (int asker = 0; asker < 4; asker++) {
            check.due("seen(asker, 0, 0)", x.seen(asker, 0, 0), 0);
            check.due("seen(asker, 0, 1)", x.seen(asker, 0, 1), 0);
            check.due("seen(asker, 0, 2)", x.seen(asker, 0, 2), NONE);
        }
        x.pass(10);
        x.convict(0, 5, 0, 0);
        x.convict(0, 10, 1, 0);
        x.convict(1, 10, 2, 0);
        x.course(0, 0);
        x.strike(1);
        due(x, 0, 2, 8, 1);
        due(x, 1, 1, 3, 0);
        due(x, 2, 1, 3, 0);
        due(x, 3, 1, 3, 0);
        x.pass(9);
        due(x, 3, 1, 3, 0);
        x.pass(1);
        due(x, 3, 0, 0, NONE);
        x.pass(9);
        due(x, 2, 1, 3, 0);
        x.pass(1);
        due(x, 2, 0, 0, NONE);
        x.convict(0, 30, 2, 0);
        x.convict(0, 30, 0, 0);
        due(x, 0, 4, 20, 5);
        due(x, 1, 3, 15, 5);
        due(x, 2, 2, 12, 5);
        due(x, 3, 0, 0, NONE);
        x.lower(4, 8);
        due(x, 2, 2, 11, 5);
        due(x, 3, 2, 11, 5);
        x.rule(4, 0);
        due(x, 2, 0, 0, NONE);
        x.rule(5, 0);
        due(x, 3, 0, 0, NONE);
        due(x, 1, 3, 14, 5);
    }

    private static void due(PointsOffice x, int asker, int many, int points, int latest) {
        check.due("seen(" + asker + ", 0, 0)", x.seen(asker, 0, 0), many);
        check.due("seen(" + asker + ", 0, 1)", x.seen(asker, 0, 1), points);
        check.due("seen(" + asker + ", 0, 2)", x.seen(asker, 0, 2), latest);
    }

    private static void seenWrong() {
        check.part("promise 26: wrong numbers");
        PointsOffice x = new PointsOffice();
        int[][] bad = {{-1, 0, 0}, {4, 0, 0}, {0, -1, 0}, {0, 4, 0}, {0, 0, -1}, {0, 0, 3}, {MAX, 0, 0}, {0, MIN, 0},
            {0, 0, MAX}};
        for (int[] a : bad) {
            check.due("seen(" + a[0] + ", " + a[1] + ", " + a[2] + ")", x.seen(a[0], a[1], a[2]), BAD);
        }
    }

    private static void counts() {
        check.part("promise 27");
        PointsOffice x = Check.laid("w011;l13;b14;m015;s016017;k150;k100;");
        x.pass(8);
        x.convict(0, 8, 0, 0);
        x.convict(3, 8, 0, 0);
        x.course(0, 0);
        x.wipe();
        Check.writeAll(x, "abc");
        int[] told = {2, 3, 8, 3, 3, 11, 13, 14, 15, 16, 17, 2};
        for (int what = 0; what < told.length; what++) {
            check.due("count(" + what + ")", x.count(what), told[what]);
        }
        int[] bad = {-1, 12, MIN, MAX};
        for (int what : bad) {
            check.due("count(" + what + ")", x.count(what), BAD);
        }
    }
}
