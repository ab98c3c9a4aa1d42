/** The boundaries that the document names of sums, bans, one more offence, and who sees what (promises 19 to 27). */
public final class EdgesOfAnswersTest {
    private static final int BAD = PointsOffice.BAD, NONE = PointsOffice.NONE, ZERO = PointsOffice.ZERO;
    private static final int MIN = Integer.MIN_VALUE, MAX = Integer.MAX_VALUE;
    private static final Check check = new Check();

    public static void main(String[] args) {
        drivers();
        sumDays();
        needOf1To99();
        needNone();
        needIfDouble();
        needByACodeWithoutAnOwnBan();
        needWithForty();
        wouldOffences();
        wouldFullOrNot();
        wouldWithTheMostBans();
        wouldLongerInAll();
        wouldWithoutSpecialReasons();
        bannedDays();
        daysFromTo();
        daysAtTheEndsOfBans();
        freeFromTodayOn();
        banNumbers();
        banBadAheadOfNone();
        bansOfOneDriver();
        askers();
        seenLessThanSDays();
        seenLessThanS2Days();
        seenStays0And999();
        seenStruckAndSpent();
        seenTheLatest();
        countWhat();
        check.finish();
    }

    private static void drivers() {
        check.part("DRIVERS 0 to 3");
        Stand stand = new Stand(check, x -> {
            x.pass(10);
            x.convict(0, 10, 3, 0);
            x.convict(3, 10, 3, 0);
        });
        PointsOffice x = stand.office();
        int[] own = {20, 0, 0, 20};
        for (int d = 0; d < 4; d++) {
            check.due("days of " + d, x.days(d, 0, 99999), own[d]);
            check.due("free of " + d, x.free(d), 10 + own[d]);
            check.due("ban of " + d, x.ban(d, -1, 0), own[d] / 20);
            check.due("sum of " + d, x.sum(d, 10), own[d] == 0 ? 0 : 9);
            check.due("need of " + d, x.need(d), own[d] == 0 ? 12 : 2);
            check.due("would of " + d, x.would(d, 10, 3), own[d] == 0 ? 20 : 10);
            check.due("banned of " + d, x.banned(d, 29), own[d] / 20);
            check.due("seen of " + d, x.seen(0, d, 0), own[d] / 20);
        }
        int[] none = {-1, 4, MIN, MAX};
        for (int d : none) {
            stand.refuses("sum of " + d, BAD, y -> y.sum(d, 0));
            stand.refuses("need of " + d, BAD, y -> y.need(d));
            stand.refuses("would of " + d, BAD, y -> y.would(d, 0, 0));
            stand.refuses("banned of " + d, BAD, y -> y.banned(d, 0));
            stand.refuses("days of " + d, BAD, y -> y.days(d, 0, 0));
            stand.refuses("free of " + d, BAD, y -> y.free(d));
            stand.refuses("ban of " + d, BAD, y -> y.ban(d, -1, 0));
            stand.refuses("ban of " + d, BAD, y -> y.ban(d, 0, 0));
            stand.refuses("seen of " + d, BAD, y -> y.seen(0, d, 0));
        }
    }

    private static void sumDays() {
        check.part("The SUM of a DAY (0 to 9999)");
        PointsOffice x = Check.laid("w010;l99;k500;");
        x.convict(0, 0, 0, 0);
        check.due("sum(0, 0)", x.sum(0, 0), 5);
        x.pass(9999);
        x.convict(0, 9999, 0, 0);
        check.due("sum(0, 9999)", x.sum(0, 9999), 5);
        check.due("behind TODAY", new PointsOffice().sum(0, 9999), 0);
        Stand stand = new Stand(check, y -> y.pass(9999));
        int[] bad = {-1, 10000, MIN, MAX};
        for (int day : bad) {
            stand.refuses("sum(0, " + day + ")", BAD, y -> y.sum(0, day));
        }
    }

    private static void needOf1To99() {
        check.part("The fewest POINTS (1 to 99)");
        PointsOffice x = Check.laid("w010;l01;k100;k900;");
        check.due("of L 1", x.need(0), 1);
        x.rule(1, 2);
        check.due("of L 2", x.need(0), 2);
        x.rule(1, 99);
        check.due("of L 99", x.need(0), 99);
        x.convict(0, 0, 0, 0);
        check.due("1 there", x.need(0), 98);
        x.rule(1, 12);
        x.convict(0, 0, 1, 1);
        check.due("10 of 12", x.need(0), 2);
        x.convict(0, 0, 0, 1);
        check.due("11 of 12", x.need(0), 1);
        x.convict(0, 0, 0, 1);
        check.due("12 of 12, 1 all the same", x.need(0), 1);
        x.pass(9);
        check.due("W - 1 days later", x.need(0), 1);
        x.pass(1);
        check.due("W days later", x.need(0), 12);
    }

    private static void needNone() {
        check.part("NONE: 99 would not");
        PointsOffice x = Check.laid("w010;l96;k100;");
        x.course(0, 0);
        check.due("96 and 3", x.need(0), 99);
        check.due("without a course", x.need(1), 96);
        x.rule(1, 97);
        check.due("97 and 3", x.need(0), NONE);
        x.rule(1, 99);
        check.due("99 and 3", x.need(0), NONE);
        check.due("99", x.need(1), 99);
        x.pass(1);
        check.due("a window that begins behind the course", x.need(0), 99);
        // 2 on the day of the course: less than nothing in every window of that day
        PointsOffice y = Check.laid("w010;l98;k200;");
        y.course(0, 0);
        y.convict(0, 0, 0, 0);
        check.due("98 and 1", y.need(0), 99);
        y.rule(1, 99);
        check.due("99 and 1", y.need(0), NONE);
    }

    private static void needIfDouble() {
        check.part("need: DOUBLE, if so");
        PointsOffice x = Check.laid("w001;l99;k110;");
        x.convict(0, 0, 0, 0);
        check.due("98 missing", x.need(0), 49);
        x.rule(1, 98);
        check.due("97 missing", x.need(0), 49);
        x.rule(1, 97);
        check.due("96 missing", x.need(0), 48);
        x.rule(1, 99);
        x.pass(9);
        check.due("the ban's last day, 99 missing", x.need(0), 50);
        x.course(0, 0);
        check.due("102 missing", x.need(0), 51);
        x.pass(1);
        check.due("a day behind the ban", x.need(0), 99);
    }

    private static void needByACodeWithoutAnOwnBan() {
        check.part("need: by a CODE without an own BAN");
        PointsOffice x = Check.laid("w010;l12;k999;");
        check.due("all codes have one", x.need(0), 12);
        Stand stand = new Stand(check, y -> y.convict(0, 0, 3, 0));
        stand.changesNothing("need(0)", y -> y.need(0));
        stand.changesNothing("need(1)", y -> y.need(1));
    }

    private static void needWithForty() {
        check.part("need with 40 EVENTS there");
        PointsOffice x = Check.laid("l99;k100;");
        for (int e = 0; e < 40; e++) {
            x.convict(0, 0, 0, 0);
        }
        check.due("59 missing", x.need(0), 59);
        check.due("another driver", x.need(1), 99);
    }

    private static void wouldOffences() {
        check.part("an OFFENCE of that DAY (0 to TODAY) by a CODE");
        Stand stand = new Stand(check, x -> {
            x.pass(6);
            x.convict(0, 6, 2, 0);
        });
        check.due("would(1, 0, 3)", stand.office().would(1, 0, 3), 20);
        check.due("would(1, 6, 3)", stand.office().would(1, 6, 3), 20);
        check.due("would(1, 6, 0)", stand.office().would(1, 6, 0), 0);
        int[][] bad = {{0, -1, 0}, {0, 7, 0}, {0, 0, -1}, {0, 0, 4}, {0, MIN, 0}, {0, MAX, 0}, {0, 0, MIN},
            {0, 0, MAX}};
        for (int[] a : bad) {
            stand.refuses("would(" + a[0] + ", " + a[1] + ", " + a[2] + ")", BAD, x -> x.would(a[0], a[1], a[2]));
        }
        PointsOffice six = Check.laid("k101;k102;k103;k104;k105;k106;");
        check.due("the sixth code", six.would(0, 0, 5), 6);
        check.due("a seventh", six.would(0, 0, 6), BAD);
        check.due("on DAY 0 alone", six.would(0, 1, 0), BAD);
    }

    private static void wouldFullOrNot() {
        check.part("would: FULL or not");
        int[] there = {0, 39, 40};
        for (int many : there) {
            Stand stand = new Stand(check, x -> {
                Check.writeAll(x, "w001;l50;b07;m000;k100;k999;");
                x.lay();
                for (int e = 0; e < many; e++) {
                    x.convict(1, 0, 0, 0);
                }
            });
            check.due("would(0, 0, 1) with " + many, stand.office().would(0, 0, 1), 99);
            stand.changesNothing("would(0, 0, 1)", x -> x.would(0, 0, 1));
            // 40 points there and 9 more are not 50
            check.due("would(1, 0, 1) with " + many, stand.office().would(1, 0, 1), 99);
            PointsOffice x = stand.office();
            x.rule(1, 49);
            check.due("just reached with 40", x.would(1, 0, 1), many == 40 ? 106 : 99);
        }
    }

    private static void wouldWithTheMostBans() {
        check.part("would: FULL, and every CONVICTION gave two BANS");
        Stand stand = new Stand(check, x -> {
            Check.writeAll(x, "w001;l09;b99;m999;k999;");
            x.lay();
            for (int e = 0; e < 40; e++) {
                x.convict(0, 0, 0, 0);
            }
        });
        check.due("80 there", stand.office().count(11), 80);
        check.due("4 B more", stand.office().would(0, 0, 0), 396);
        check.due("another: own and 1 B", stand.office().would(1, 0, 0), 198);
        stand.changesNothing("would", x -> x.would(0, 0, 0));
    }

    private static void wouldLongerInAll() {
        check.part("How many DAYS longer he would be BANNED in all");
        PointsOffice x = Check.laid("w010;l99;k120;k119;k121;k100;");
        x.convict(0, 0, 0, 0);
        check.due("within", x.would(0, 0, 1), 0);
        check.due("the same days", x.would(0, 0, 0), 0);
        check.due("a day longer", x.would(0, 0, 2), 1);
        check.due("no ban", x.would(0, 0, 3), 0);
        x.pass(1);
        check.due("to the same last day", x.would(0, 0, 1), 0);
        check.due("a day longer", x.would(0, 0, 0), 1);
        x.pass(18);
        check.due("on the last day", x.would(0, 0, 0), 19);
        x.pass(1);
        check.due("a day behind", x.would(0, 0, 0), 20);
        PointsOffice y = Check.laid("w010;l06;b10;m005;k300;");
        y.convict(0, 0, 0, 0);
        check.due("3 and 3", y.would(0, 0, 0), 10);
        y.convict(0, 0, 0, 0);
        check.due("DOUBLE: 6, and 2 B", y.would(0, 0, 0), 20);
        y.pass(5);
        check.due("5 days later", y.would(0, 5, 0), 20);
        y.pass(1);
        check.due("6 days later", y.would(0, 6, 0), 10);
    }

    private static void wouldWithoutSpecialReasons() {
        check.part("would: without SPECIAL reasons");
        PointsOffice x = Check.laid("w010;l05;b10;k500;k400;");
        check.due("L reached", x.would(0, 0, 0), 10);
        check.due("L not reached", x.would(0, 0, 1), 0);
        x.convict(0, 0, 0, 1);
        check.due("with those that have them", x.would(0, 0, 1), 10);
    }

    private static void bannedDays() {
        check.part("BANNED on a DAY (0 to 99999)");
        Stand stand = new Stand(check, x -> x.convict(0, 0, 3, 0));
        check.due("banned(0, 0)", stand.office().banned(0, 0), 1);
        check.due("banned(0, 19)", stand.office().banned(0, 19), 1);
        check.due("banned(0, 20)", stand.office().banned(0, 20), 0);
        check.due("banned(0, 99999)", stand.office().banned(0, 99999), 0);
        int[] bad = {-1, 100000, MIN, MAX};
        for (int day : bad) {
            stand.refuses("banned(0, " + day + ")", BAD, x -> x.banned(0, day));
        }
    }

    private static void daysFromTo() {
        check.part("from one to another one (0 to 99999 each, the first no later)");
        Stand stand = new Stand(check, x -> x.convict(0, 0, 3, 0));
        check.due("days(0, 0, 0)", stand.office().days(0, 0, 0), 1);
        check.due("days(0, 0, 99999)", stand.office().days(0, 0, 99999), 20);
        check.due("days(0, 99999, 99999)", stand.office().days(0, 99999, 99999), 0);
        check.due("days(0, 5, 5)", stand.office().days(0, 5, 5), 1);
        int[][] bad = {{-1, 0}, {-1, -1}, {0, -1}, {0, 100000}, {100000, 100000}, {100000, 0}, {6, 5}, {99999, 99998},
            {1, 0}, {MIN, 0}, {0, MAX}, {MIN, MAX}, {MAX, MAX}, {MAX, MIN}, {0, MIN}};
        for (int[] a : bad) {
            stand.refuses("days(0, " + a[0] + ", " + a[1] + ")", BAD, x -> x.days(0, a[0], a[1]));
        }
    }

    private static void daysAtTheEndsOfBans() {
        check.part("on how many DAYS, in a BAN or several");
        PointsOffice x = Check.laid("w001;l99;k105;k110;");
        x.pass(10);
        x.convict(0, 0, 0, 0);
        x.pass(5);
        x.convict(0, 0, 0, 0);
        x.pass(6);
        x.convict(0, 0, 1, 0);
        x.pass(2);
        x.convict(0, 0, 0, 0);
        // 10 to 14, 15 to 19, 21 to 30, 23 to 27 within it
        check.due("all", x.days(0, 0, 99999), 20);
        check.due("to the day ahead", x.days(0, 0, 9), 0);
        check.due("to the first day", x.days(0, 0, 10), 1);
        check.due("over a border", x.days(0, 14, 15), 2);
        check.due("the gap", x.days(0, 20, 20), 0);
        check.due("around the gap", x.days(0, 19, 21), 2);
        check.due("within two", x.days(0, 22, 28), 7);
        check.due("from the last day", x.days(0, 30, 99999), 1);
        check.due("from the day behind", x.days(0, 31, 99999), 0);
    }

    private static void freeFromTodayOn() {
        check.part("The first DAY from TODAY on on which he is not BANNED");
        PointsOffice x = Check.laid("w001;l05;b10;k110;k500;");
        check.due("none", x.free(0), 0);
        x.convict(0, 0, 0, 0);
        check.due("on its first day", x.free(0), 10);
        x.convict(0, 0, 1, 0);
        check.due("one behind the other", x.free(0), 20);
        x.course(0, 1);
        check.due("the first gap", x.free(0), 8);
        x.pass(7);
        check.due("on the last day ahead of it", x.free(0), 8);
        x.pass(1);
        check.due("on the gap's first day", x.free(0), 8);
        x.pass(1);
        check.due("on its last day", x.free(0), 9);
        x.pass(1);
        check.due("behind the gap", x.free(0), 20);
        x.pass(9);
        check.due("on the last day of all", x.free(0), 20);
        x.pass(1);
        check.due("a day later", x.free(0), 20);
        x.pass(9979);
        check.due("TODAY 9999", x.free(0), 9999);
        x.convict(0, 9999, 0, 0);
        check.due("behind DAY 9999", x.free(0), 10009);
    }

    private static void banNumbers() {
        check.part("How many BANS he was given (i = -1); of the i-th in order: what = 0 to 4");
        Stand stand = new Stand(check, x -> {
            x.pass(5);
            x.convict(0, 5, 3, 0);
            x.convict(0, 5, 0, 0);
            x.course(0, 1);
        });
        PointsOffice x = stand.office();
        int[][] due = {{5, 15, 0, 0, 1}, {25, 10, 1, 1, 0}};
        check.due("ban(0, -1, 0)", x.ban(0, -1, 0), 2);
        for (int i = 0; i < 2; i++) {
            for (int what = 0; what <= 4; what++) {
                check.due("ban(0, " + i + ", " + what + ")", x.ban(0, i, what), due[i][what]);
            }
        }
        check.due("ban(0, 2, 0)", x.ban(0, 2, 0), NONE);
        check.due("ban(0, 2, 4)", x.ban(0, 2, 4), NONE);
        check.due("ban(0, MAX, 0)", x.ban(0, MAX, 0), NONE);
        check.due("ban(1, -1, 0)", x.ban(1, -1, 0), 0);
        check.due("ban(1, 0, 0)", x.ban(1, 0, 0), NONE);
        int[][] bad = {{0, -2, 0}, {0, MIN, 0}, {0, 0, -1}, {0, 0, 5}, {0, 1, -1}, {0, 1, 5}, {0, 0, MIN}, {0, 0, MAX}};
        for (int[] a : bad) {
            stand.refuses("ban(" + a[0] + ", " + a[1] + ", " + a[2] + ")", BAD, y -> y.ban(a[0], a[1], a[2]));
        }
    }

    private static void banBadAheadOfNone() {
        check.part("of several the first: BAD; NONE");
        PointsOffice x = new PointsOffice();
        check.due("ban(0, 0, 5)", x.ban(0, 0, 5), BAD);
        check.due("ban(0, 0, -1)", x.ban(0, 0, -1), BAD);
        check.due("ban(4, 0, 0)", x.ban(4, 0, 0), BAD);
        check.due("ban(0, -2, 0)", x.ban(0, -2, 0), BAD);
        check.due("ban(0, 0, 0)", x.ban(0, 0, 0), NONE);
        x.course(0, 0);
        check.due("event(0, 11)", x.event(0, 11), BAD);
        check.due("event(0, 3)", x.event(0, 3), NONE);
    }

    private static void bansOfOneDriver() {
        check.part("the i-th in order, 11 BANS in all");
        PointsOffice x = Check.laid("w001;l09;b99;m999;k999;");
        for (int e = 0; e < 40; e++) {
            x.convict(e % 4, 0, 0, 0);
        }
        check.due("count(11)", x.count(11), 80);
        for (int d = 0; d < 4; d++) {
            check.due("ban(d, -1, 0)", x.ban(d, -1, 0), 20);
            check.due("the last one", x.ban(d, 19, 2), 36 + d);
            check.due("one more", x.ban(d, 20, 2), NONE);
            check.due("its own one", x.ban(d, 18, 3), 0);
            check.due("its great one", x.ban(d, 19, 3), 1);
        }
    }

    private static void dueSeen(PointsOffice x, int asker, int many, int points, int latest) {
        check.due("seen(" + asker + ", 0, 0) on " + x.count(2), x.seen(asker, 0, 0), many);
        check.due("seen(" + asker + ", 0, 1) on " + x.count(2), x.seen(asker, 0, 1), points);
        check.due("seen(" + asker + ", 0, 2) on " + x.count(2), x.seen(asker, 0, 2), latest);
    }

    private static void askers() {
        check.part("an ASKER (0 to 3); what = 0 to 2");
        Stand stand = new Stand(check, x -> {
            x.convict(0, 0, 0, 0);
            x.course(0, 0);
        });
        for (int asker = 0; asker < 4; asker++) {
            dueSeen(stand.office(), asker, 1, 3, 0);
            check.due("none of another", stand.office().seen(asker, 1, 0), 0);
            check.due("none of another", stand.office().seen(asker, 1, 1), 0);
            check.due("none of another", stand.office().seen(asker, 1, 2), NONE);
        }
        int[][] bad = {{-1, 0, 0}, {4, 0, 0}, {0, -1, 0}, {0, 4, 0}, {0, 0, -1}, {0, 0, 3}, {3, 3, 3}, {MIN, 0, 0},
            {MAX, 0, 0}, {0, 0, MIN}, {0, 0, MAX}};
        for (int[] a : bad) {
            stand.refuses("seen(" + a[0] + ", " + a[1] + ", " + a[2] + ")", BAD, x -> x.seen(a[0], a[1], a[2]));
        }
    }

    private static void seenLessThanSDays() {
        check.part("2 those whose EVENT's DAY is less than S DAYS ahead of TODAY");
        PointsOffice x = Check.laid("l99;s020999;k300;k500;");
        x.pass(50);
        x.convict(0, 10, 0, 0);
        x.pass(1);
        x.convict(0, 0, 1, 0);
        x.pass(18);
        dueSeen(x, 2, 2, 8, 1);
        x.pass(1);
        dueSeen(x, 2, 1, 5, 1);
        x.pass(1);
        dueSeen(x, 2, 0, 0, NONE);
        dueSeen(x, 1, 2, 8, 1);
        dueSeen(x, 3, 2, 8, 1);
        x.rule(4, 21);
        dueSeen(x, 2, 1, 5, 1);
        x.rule(4, 22);
        dueSeen(x, 2, 2, 8, 1);
    }

    private static void seenLessThanS2Days() {
        check.part("3 those whose OFFENCE is less than S2 DAYS ahead of TODAY");
        PointsOffice x = Check.laid("l99;s999020;k300;k500;");
        x.pass(50);
        x.convict(0, 40, 0, 0);
        x.convict(0, 39, 1, 0);
        x.pass(8);
        dueSeen(x, 3, 2, 8, 1);
        x.pass(1);
        dueSeen(x, 3, 1, 3, 0);
        x.pass(1);
        dueSeen(x, 3, 0, 0, NONE);
        dueSeen(x, 2, 2, 8, 1);
        x.redate(0, 41);
        dueSeen(x, 3, 1, 3, 0);
        x.rule(5, 22);
        dueSeen(x, 3, 2, 8, 1);
    }

    private static void seenStays0And999() {
        check.part("STAYS S and S2 (0 to 999 days)");
        PointsOffice x = Check.laid("l99;s000000;k300;");
        x.convict(0, 0, 0, 0);
        dueSeen(x, 2, 0, 0, NONE);
        dueSeen(x, 3, 0, 0, NONE);
        x.rule(4, 1);
        x.rule(5, 1);
        dueSeen(x, 2, 1, 3, 0);
        dueSeen(x, 3, 1, 3, 0);
        x.pass(1);
        dueSeen(x, 2, 0, 0, NONE);
        dueSeen(x, 3, 0, 0, NONE);
        x.rule(4, 999);
        x.rule(5, 999);
        x.pass(997);
        dueSeen(x, 2, 1, 3, 0);
        dueSeen(x, 3, 1, 3, 0);
        x.pass(1);
        dueSeen(x, 2, 0, 0, NONE);
        dueSeen(x, 3, 0, 0, NONE);
        dueSeen(x, 1, 1, 3, 0);
        x.pass(9000);
        dueSeen(x, 0, 1, 3, 0);
        dueSeen(x, 1, 1, 3, 0);
    }

    private static void seenStruckAndSpent() {
        check.part("0 all; 1 those not STRUCK; 3 those not STRUCK, not SPENT");
        PointsOffice x = Check.laid("w100;l08;k300;k500;");
        x.convict(0, 0, 0, 0);
        x.convict(0, 0, 0, 0);
        x.strike(1);
        dueSeen(x, 0, 2, 6, 1);
        dueSeen(x, 1, 1, 3, 0);
        dueSeen(x, 2, 1, 3, 0);
        dueSeen(x, 3, 1, 3, 0);
        x.convict(0, 0, 1, 0);
        dueSeen(x, 0, 3, 11, 2);
        dueSeen(x, 1, 2, 8, 2);
        dueSeen(x, 2, 2, 8, 2);
        dueSeen(x, 3, 0, 0, NONE);
        x.lower(2, 4);
        dueSeen(x, 3, 2, 7, 2);
        x.strike(0);
        x.strike(2);
        dueSeen(x, 0, 3, 10, 2);
        for (int asker = 1; asker < 4; asker++) {
            dueSeen(x, asker, 0, 0, NONE);
        }
    }

    private static void seenTheLatest() {
        check.part("the latest one (2; NONE)");
        PointsOffice x = Check.laid("l99;k300;");
        for (int asker = 0; asker < 4; asker++) {
            dueSeen(x, asker, 0, 0, NONE);
        }
        x.course(0, 0);
        dueSeen(x, 0, 0, 0, NONE);
        x.pass(10);
        x.convict(0, 9, 0, 0);
        x.convict(0, 2, 0, 0);
        x.convict(1, 10, 0, 0);
        // the one that came last, not the one whose offence is the latest
        dueSeen(x, 0, 2, 6, 2);
        x.convict(0, 10, 0, 0);
        check.due("a double one: its POINTS", x.seen(0, 0, 1), 9);
        PointsOffice y = Check.laid("w100;l99;k310;");
        y.convict(0, 0, 0, 0);
        y.convict(0, 0, 0, 0);
        check.due("DOUBLE", y.event(1, 8), 1);
        dueSeen(y, 3, 2, 6, 1);
    }

    private static void countWhat() {
        check.part("How many: 0 to 11");
        Stand stand = new Stand(check, x -> {
            Check.writeAll(x, "w011;l13;b14;m015;s016017;k150;k100;");
            x.lay();
            x.pass(8);
            x.convict(0, 8, 0, 0);
            x.convict(3, 8, 0, 0);
            x.strike(1);
            x.course(0, 0);
        });
        int[] due = {2, 3, 8, 4, 36, 11, 13, 14, 15, 16, 17, 1};
        for (int what = 0; what < due.length; what++) {
            check.due("count(" + what + ")", stand.office().count(what), due[what]);
        }
        int[] bad = {-1, 12, MIN, MAX};
        for (int what : bad) {
            stand.refuses("count(" + what + ")", BAD, x -> x.count(what));
        }
        PointsOffice most = new PointsOffice();
        most.year(1, 20);
        most.year(2, 20);
        check.due("40 EVENTS", most.count(1), 40);
        check.due("6 changes", most.count(3), 6);
        check.due("strike", most.strike(0) >= ZERO - 99999 ? 1 : 0, 1);
        check.due("6 changes still", most.count(3), 6);
        PointsOffice last = new PointsOffice();
        last.pass(9999);
        check.due("TODAY 9999", last.count(2), 9999);
    }
}
