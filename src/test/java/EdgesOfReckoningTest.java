/** The boundaries that part 2 of the document names: EVENTS, windows, SUMS, BANS, COURSES, what is reckoned anew. */
public final class EdgesOfReckoningTest {
    private static final int BAD = PointsOffice.BAD, FULL = PointsOffice.FULL;
    private static final int ZERO = PointsOffice.ZERO;
    private static final int FIRST = 0, LENGTH = 1, CONVICTION = 2, GREAT = 3;
    private static final int POINTS = 5, DOUBLE = 8, SPENT = 9;
    private static final Check check = new Check();

    public static void main(String[] args) {
        fortyEvents();
        eachOnTheDayThatIsToday();
        offenceTodayOrEarlier();
        bannedOnTheDayOfTheOffence();
        doubleByBansGivenSoFar();
        doubleBehindAShortBan();
        ownBan();
        ownBanWithSpecialReasons();
        windowsOfDays();
        windowsAheadOfDayNought();
        windowsBehindTheLastDay();
        mostOfAllWindows();
        lessForEachLightCourse();
        nothingLessForOthers();
        noughtAtLeast();
        limitJustReached();
        limitOfOneAndNinetyNine();
        limitByDoubleWeight();
        specialReasons();
        memoryOfDays();
        memoryOfNoDays();
        memoryOfMost();
        memoryByTheDayOfTheConviction();
        memoryOfHisGreatBansAlone();
        banThatGoesOnToDay();
        behindThatWhichGoesOnLongest();
        spentSoFar();
        spentCountNoMore();
        struckIsNothing();
        check.finish();
    }

    private static PointsOffice on(int day, String text) {
        PointsOffice x = Check.laid(text);
        x.pass(day);
        return x;
    }

    private static void convictOften(PointsOffice x, int times) {
        for (int i = 0; i < times; i++) {
            x.convict(i % 4, 0, 0, 1);
        }
    }

    private static void dueBan(PointsOffice x, int d, int i, int first, int length) {
        check.due("first day of ban " + i + " of " + d, x.ban(d, i, FIRST), first);
        check.due("length of ban " + i + " of " + d, x.ban(d, i, LENGTH), length);
    }

    private static int bans(PointsOffice x, int d) {
        return x.ban(d, -1, 0);
    }

    private static void fortyEvents() {
        check.part("EVENTS 0, 1, .. (40 at most)");
        Stand room = new Stand(check, x -> convictOften(x, 39));
        check.due("the 40th, a conviction", room.office().convict(0, 0, 3, 0), 39);
        check.due("the 40th, light", room.office().course(0, 0), 39);
        Stand banned = new Stand(check, x -> {
            x.convict(2, 0, 3, 0);
            convictOften(x, 38);
        });
        check.due("the 40th, long", banned.office().course(2, 1), 39);
        Stand full = new Stand(check, x -> {
            x.convict(2, 0, 3, 0);
            convictOften(x, 39);
        });
        full.refuses("the 41st, a conviction", FULL, x -> x.convict(0, 0, 0, 0));
        full.refuses("the 41st, light", FULL, x -> x.course(0, 0));
        full.refuses("the 41st, long", FULL, x -> x.course(2, 1));
        PointsOffice x = full.office();
        x.strike(0);
        check.due("a struck one leaves no room", x.convict(0, 0, 0, 0), FULL);
        x.undo();
        x.undo();
        check.due("an undone one does", x.convict(0, 0, 0, 0), 39);
        check.due("the 41st again", x.convict(0, 0, 0, 0), FULL);
    }

    private static void eachOnTheDayThatIsToday() {
        check.part("each on the DAY that is TODAY then");
        PointsOffice x = new PointsOffice();
        x.convict(0, 0, 3, 0);
        x.pass(9999);
        x.convict(0, 0, 3, 0);
        x.course(1, 0);
        check.due("event(0, 1)", x.event(0, 1), 0);
        check.due("event(1, 1)", x.event(1, 1), 9999);
        check.due("event(2, 1)", x.event(2, 1), 9999);
    }

    private static void offenceTodayOrEarlier() {
        check.part("the DAY of the OFFENCE (TODAY or earlier)");
        int[] days = {0, 1, 40, 9999};
        for (int today : days) {
            Stand stand = new Stand(check, x -> x.pass(today));
            check.due("on TODAY", stand.office().convict(0, today, 0, 0), 0);
            check.due("on DAY 0", stand.office().convict(0, 0, 0, 0), 0);
            stand.refuses("a day behind TODAY", BAD, x -> x.convict(0, today + 1, 0, 0));
            stand.refuses("a day ahead of DAY 0", BAD, x -> x.convict(0, -1, 0, 0));
        }
    }

    private static void bannedOnTheDayOfTheOffence() {
        check.part("DOUBLE, if its DRIVER is BANNED on DAY o");
        PointsOffice x = on(50, "w100;l99;k104;k300;");
        x.convict(0, 50, 0, 0);
        x.pass(10);
        int[] offences = {49, 50, 53, 54};
        int[] due = {0, 1, 1, 0};
        for (int i = 0; i < offences.length; i++) {
            int e = x.convict(0, offences[i], 1, 0);
            check.due("DOUBLE of day " + offences[i], x.event(e, DOUBLE), due[i]);
            check.due("POINTS stay", x.event(e, POINTS), 3);
        }
        check.due("sum(0, 52), twice if it is DOUBLE", x.sum(0, 52), 1 + 3 + 6 + 6 + 3);
        int other = x.convict(1, 50, 1, 0);
        check.due("another's ban", x.event(other, DOUBLE), 0);
        check.due("redate to a day ahead", x.redate(2, 49), ZERO);
        check.due("not DOUBLE now", x.event(2, DOUBLE), 0);
        x.redate(1, 53);
        check.due("DOUBLE now", x.event(1, DOUBLE), 1);
    }

    private static void doubleByBansGivenSoFar() {
        check.part("DOUBLE by BANS given so far");
        PointsOffice x = on(5, "w100;l99;k105;k300;");
        x.convict(0, 5, 1, 0);
        x.convict(0, 5, 0, 0);
        check.due("not by a ban given later", x.event(0, DOUBLE), 0);
        check.due("not by its own", x.event(1, DOUBLE), 0);
        x.convict(0, 5, 0, 0);
        check.due("by one given ahead of it on that day", x.event(2, DOUBLE), 1);
        PointsOffice y = on(5, "w001;l05;b03;k500;");
        y.convict(0, 5, 0, 0);
        check.due("not by its own great ban", y.event(0, DOUBLE), 0);
        y.convict(0, 5, 0, 0);
        check.due("by a great ban", y.event(1, DOUBLE), 1);
    }

    private static void doubleBehindAShortBan() {
        check.part("DOUBLE, BANNED on the days that a short BAN has");
        PointsOffice x = Check.laid("w100;l99;k108;k300;");
        x.convict(0, 0, 0, 0);
        x.course(0, 1);
        x.pass(20);
        x.convict(0, 5, 1, 0);
        x.convict(0, 6, 1, 0);
        check.due("on its last day", x.event(2, DOUBLE), 1);
        check.due("on the first that was taken off", x.event(3, DOUBLE), 0);
        PointsOffice y = Check.laid("w100;l99;k108;k300;");
        y.convict(0, 0, 0, 0);
        y.pass(7);
        y.convict(0, 7, 1, 0);
        check.due("ahead of the course", y.event(1, DOUBLE), 1);
    }

    private static void ownBan() {
        check.part("its own BAN (0 to 99 days, 0: none)");
        PointsOffice x = on(30, "w001;l99;k100;k101;k199;");
        x.convict(0, 3, 0, 0);
        check.due("none", bans(x, 0), 0);
        x.convict(1, 3, 1, 0);
        dueBan(x, 1, 0, 30, 1);
        check.due("PLAIN", x.ban(1, 0, GREAT), 0);
        check.due("of its conviction", x.ban(1, 0, CONVICTION), 1);
        check.due("a day ahead", x.banned(1, 29), 0);
        check.due("its day", x.banned(1, 30), 1);
        check.due("a day behind", x.banned(1, 31), 0);
        x.convict(2, 3, 2, 0);
        dueBan(x, 2, 0, 30, 99);
        check.due("its last day", x.banned(2, 128), 1);
        check.due("a day behind", x.banned(2, 129), 0);
    }

    private static void ownBanWithSpecialReasons() {
        check.part("SPECIAL reasons: the own BAN is given, at once behind another one too");
        PointsOffice x = on(30, "w010;l05;k520;");
        x.convict(0, 3, 0, 1);
        check.due("bans", bans(x, 0), 1);
        dueBan(x, 0, 0, 30, 20);
        x.pass(5);
        x.convict(0, 4, 0, 1);
        dueBan(x, 0, 1, 35, 20);
        x.lower(1, 0);
        check.due("lowered to 0, its own BAN stays", bans(x, 0), 2);
    }

    private static void windowsOfDays() {
        check.part("all W DAYS in a row");
        int[] windows = {1, 2, 60, 998, 999};
        for (int w : windows) {
            PointsOffice x = on(9999, "l06;b01;k300;w" + String.format("%03d;", w));
            x.convict(0, 5000, 0, 0);
            x.convict(0, 5000 + w - 1, 0, 0);
            check.due("W - 1 days on, " + w, bans(x, 0), 1);
            x.convict(1, 5000, 0, 0);
            x.convict(1, 5000 + w, 0, 0);
            check.due("W days on, " + w, bans(x, 1), 0);
            x.convict(2, 5000, 0, 0);
            x.convict(2, 5000 - w + 1, 0, 0);
            check.due("W - 1 days ahead, " + w, bans(x, 2), 1);
            x.convict(3, 5000, 0, 0);
            x.convict(3, 5000 - w, 0, 0);
            check.due("W days ahead, " + w, bans(x, 3), 0);
            check.due("sum W - 1 days on", x.sum(3, 5000 + w - 1), 3);
            check.due("sum W days on", x.sum(3, 5000 + w), 0);
            check.due("sum 2 W - 1 days ahead", x.sum(3, 5000 - w - w + 1), 3);
            check.due("sum 2 W days ahead", x.sum(3, 5000 - w - w), 0);
        }
    }

    private static void windowsAheadOfDayNought() {
        check.part("they may begin ahead of DAY 0");
        PointsOffice x = on(1, "w010;l99;k500;");
        x.course(0, 0);
        x.convict(0, 0, 0, 0);
        // the one window that has DAY 0, not DAY 1, begins on DAY -9
        check.due("sum(0, 0)", x.sum(0, 0), 5);
        check.due("sum(0, 1)", x.sum(0, 1), 2);
        check.due("rule(1, 6)", x.rule(1, 6), 99);
        check.due("L not reached", bans(x, 0), 0);
        check.due("rule(1, 5)", x.rule(1, 5), 6);
        check.due("L reached there", bans(x, 0), 1);
        PointsOffice y = on(5, "w010;l99;k500;");
        y.course(0, 0);
        y.convict(0, 0, 0, 0);
        check.due("sum(0, 4) from DAY -5 on", y.sum(0, 4), 5);
        check.due("sum(0, 5)", y.sum(0, 5), 2);
        PointsOffice z = on(998, "l08;b01;w999;k500;k300;");
        z.convict(0, 0, 0, 0);
        z.convict(0, 998, 1, 0);
        check.due("the window that begins on DAY 0", bans(z, 0), 1);
    }

    private static void windowsBehindTheLastDay() {
        check.part("all windows: behind TODAY and DAY 9999 too");
        PointsOffice x = on(9998, "w010;l99;k500;");
        x.course(0, 0);
        x.pass(1);
        x.convict(0, 9999, 0, 0);
        check.due("sum(0, 9999)", x.sum(0, 9999), 5);
        check.due("sum(0, 9998)", x.sum(0, 9998), 2);
        x.rule(1, 5);
        check.due("L reached", bans(x, 0), 1);
        PointsOffice y = on(20, "w010;l99;k500;");
        y.convict(0, 20, 0, 0);
        check.due("sum behind TODAY", y.sum(0, 29), 5);
        check.due("one day farther", y.sum(0, 30), 0);
    }

    private static void mostOfAllWindows() {
        check.part("those in which there is most");
        PointsOffice x = on(200, "w010;l99;k100;k300;k500;");
        x.convict(0, 91, 1, 0);
        x.convict(0, 100, 0, 0);
        x.convict(0, 109, 2, 0);
        check.due("3 and 1 or 1 and 5", x.sum(0, 100), 6);
        check.due("sum(0, 99)", x.sum(0, 99), 4);
        check.due("sum(0, 101)", x.sum(0, 101), 6);
        x.lower(2, 2);
        check.due("3 and 1 or 1 and 2", x.sum(0, 100), 4);
        x.rule(0, 19);
        check.due("all three", x.sum(0, 100), 6);
        x.rule(0, 18);
        check.due("two of them", x.sum(0, 100), 4);
    }

    private static void lessForEachLightCourse() {
        check.part("less 3 for each LIGHT COURSE of his on one of them");
        PointsOffice x = on(3, "w004;l99;k900;");
        x.course(0, 0);
        x.pass(4);
        x.course(0, 0);
        x.pass(3);
        x.convict(0, 0, 0, 0);
        x.convict(0, 10, 0, 0);
        x.rule(0, 11);
        check.due("18 less 6", x.sum(0, 5), 12);
        x.rule(0, 10);
        check.due("9 less 3 at either end", x.sum(0, 5), 6);
        check.due("9 alone", x.sum(0, 0), 9);
        check.due("9 less 3", x.sum(0, 3), 6);
        check.due("9 alone again", x.sum(0, 8), 9);
        PointsOffice y = on(20, "w010;l99;k500;");
        y.course(0, 0);
        y.convict(0, 20, 0, 0);
        check.due("on one day", y.sum(0, 20), 2);
        check.due("W - 1 days on", y.sum(0, 29), 2);
    }

    private static void nothingLessForOthers() {
        check.part("a LIGHT COURSE of his so far, not SPENT");
        PointsOffice x = on(20, "w010;l99;b20;k500;k520;");
        x.course(1, 0);
        x.convict(0, 20, 0, 0);
        check.due("another's course", x.sum(0, 20), 5);
        x.convict(2, 20, 1, 0);
        x.course(2, 1);
        check.due("a LONG course", x.sum(2, 20), 5);
        x.course(0, 0);
        check.due("his", x.sum(0, 20), 2);
        x.rule(1, 5);
        check.due("not so far then: a great ban", bans(x, 0), 1);
        check.due("the course came behind it", x.event(4, SPENT), 0);
        x.convict(0, 19, 0, 0);
        check.due("now so far", bans(x, 0), 2);
        // the offence of day 19 has a window without the course, that of day 20 has none
        x.redate(5, 20);
        check.due("DOUBLE, 10 less 3", bans(x, 0), 2);
        x.rule(1, 8);
        check.due("5 and 5 less 3 of 8", bans(x, 0), 0);
        x.rule(1, 7);
        check.due("5 and 5 less 3 of 7", bans(x, 0), 1);
    }

    private static void noughtAtLeast() {
        check.part("0 at least");
        PointsOffice x = on(20, "w010;l99;k100;k400;k300;");
        x.course(0, 0);
        check.due("a course alone", x.sum(0, 20), 0);
        x.convict(0, 20, 0, 0);
        check.due("1 less 3", x.sum(0, 20), 0);
        x.redate(1, 15);
        check.due("a window with neither", x.sum(0, 25), 0);
        x.strike(1);
        x.convict(0, 20, 2, 0);
        check.due("3 less 3", x.sum(0, 20), 0);
        x.strike(2);
        x.convict(0, 20, 1, 0);
        check.due("4 less 3", x.sum(0, 20), 1);
        check.due("nothing at all", x.sum(1, 20), 0);
        PointsOffice y = on(20, "w010;l01;k300;k400;");
        y.course(0, 0);
        y.convict(0, 20, 0, 0);
        check.due("0 is less than L", bans(y, 0), 0);
        y.course(1, 0);
        y.convict(1, 20, 1, 0);
        check.due("1 is L", bans(y, 1), 1);
    }

    private static void limitJustReached() {
        check.part("if the SUM is L or more");
        PointsOffice x = on(20, "w010;l08;k300;k400;k500;k600;");
        int[] codes = {1, 2, 3};
        int[] due = {0, 1, 1};
        for (int d = 0; d < 3; d++) {
            x.convict(d, 11, 0, 0);
            check.due("3", bans(x, d), 0);
            x.convict(d, 20, codes[d], 0);
            check.due("3 and " + (4 + d), bans(x, d), due[d]);
        }
        check.due("lowered to L - 1", x.lower(3, 4), ZERO - 10);
        check.due("sum(1, 20)", x.sum(1, 20), 7);
        check.due("undo()", x.undo(), 5);
        check.due("bans", bans(x, 1), 1);
        check.due("rule(1, 9)", x.rule(1, 9), 8);
        check.due("3 and 5 of 9", bans(x, 1), 0);
        check.due("3 and 6 of 9", bans(x, 2), 1);
        check.due("rule(1, 7)", x.rule(1, 7), 9);
        check.due("3 and 4 of 7", bans(x, 0), 1);
    }

    private static void limitOfOneAndNinetyNine() {
        check.part("LIMIT L (1 to 99 points)");
        PointsOffice x = on(20, "l01;k100;");
        x.convict(0, 20, 0, 0);
        check.due("1 of 1", bans(x, 0), 1);
        check.due("lower to 0", x.lower(0, 0), ZERO - 10);
        check.due("0 of 1", bans(x, 0), 0);
        PointsOffice y = on(20, "l99;k900;k800;");
        for (int i = 0; i < 10; i++) {
            y.convict(0, 20, 0, 0);
            y.convict(1, 20, 0, 0);
        }
        check.due("90 of 99", bans(y, 0), 0);
        y.convict(0, 20, 1, 0);
        check.due("98 of 99", bans(y, 0), 0);
        y.convict(1, 20, 0, 0);
        check.due("99 of 99", bans(y, 1), 1);
    }

    private static void limitByDoubleWeight() {
        check.part("WEIGHTS (POINTS, twice if it is DOUBLE)");
        PointsOffice x = on(20, "w010;l08;k105;k300;k400;");
        x.convict(0, 15, 0, 0);
        x.convict(0, 20, 1, 0);
        check.due("1 and 6", bans(x, 0), 1);
        x.convict(1, 15, 0, 0);
        x.convict(1, 20, 2, 0);
        check.due("1 and 8", bans(x, 1), 2);
        x.convict(2, 15, 0, 0);
        x.convict(2, 19, 2, 0);
        check.due("1 and 4, a day ahead of the ban", bans(x, 2), 1);
        check.due("lowered, twice that", x.lower(3, 3), ZERO - 10);
        check.due("sum(1, 20)", x.sum(1, 20), 7);
    }

    private static void specialReasons() {
        check.part("and there are no SPECIAL reasons");
        PointsOffice x = on(20, "w010;l05;k500;");
        x.convict(0, 20, 0, 1);
        check.due("none with", bans(x, 0), 0);
        check.due("nor SPENT", x.event(0, SPENT), 0);
        check.due("it counts", x.sum(0, 20), 5);
        x.convict(0, 11, 0, 0);
        check.due("one without", bans(x, 0), 1);
        check.due("both SPENT", x.event(0, SPENT) + x.event(1, SPENT), 2);
        check.due("excuse(0)", x.excuse(0), ZERO + 20);
        check.due("2 B for the other", x.ban(0, 1, LENGTH), 20);
        check.due("excuse(1)", x.excuse(1), ZERO - 20);
    }

    private static void memoryOfDays() {
        check.part("on one of the M DAYS ahead of t");
        PointsOffice x = on(100, "w001;l05;b07;m020;k500;");
        for (int d = 0; d < 4; d++) {
            x.convict(d, 50, 0, 0);
            check.due("B", x.ban(d, 0, LENGTH), 7);
        }
        x.convict(2, 51, 0, 0);
        check.due("2 B, one on t", x.ban(2, 1, LENGTH), 14);
        x.pass(1);
        x.convict(3, 51, 0, 0);
        check.due("2 B, one a day ahead", x.ban(3, 1, LENGTH), 14);
        x.pass(19);
        x.convict(0, 52, 0, 0);
        check.due("2 B, one M days ahead", x.ban(0, 1, LENGTH), 14);
        x.convict(2, 52, 0, 0);
        check.due("4 B, two M days ahead", x.ban(2, 2, LENGTH), 28);
        x.pass(1);
        x.convict(1, 53, 0, 0);
        check.due("B, one M + 1 days ahead", x.ban(1, 1, LENGTH), 7);
        x.convict(3, 53, 0, 0);
        check.due("2 B, one of two forgotten", x.ban(3, 2, LENGTH), 14);
        x.convict(3, 54, 0, 0);
        check.due("4 B, M days ahead and on t", x.ban(3, 3, LENGTH), 28);
        x.convict(3, 55, 0, 0);
        check.due("4 B, three", x.ban(3, 4, LENGTH), 28);
        x.rule(3, 21);
        check.due("2 B now", x.ban(1, 1, LENGTH), 14);
        check.due("4 B now", x.ban(3, 2, LENGTH), 28);
        x.rule(3, 19);
        check.due("B now", x.ban(0, 1, LENGTH), 7);
    }

    private static void memoryOfNoDays() {
        check.part("M DAYS ahead of t or on t: none ahead");
        PointsOffice x = on(100, "w001;l05;b07;m000;k500;");
        int[] lengths = {7, 14, 28, 28};
        for (int i = 0; i < lengths.length; i++) {
            x.convict(0, 50 + i, 0, 0);
            check.due("on t, " + i + " ahead of it", x.ban(0, i, LENGTH), lengths[i]);
        }
        x.pass(1);
        x.convict(0, 60, 0, 0);
        check.due("a day later", x.ban(0, 4, LENGTH), 7);
    }

    private static void memoryOfMost() {
        check.part("MEMORY M (0 to 999 days)");
        PointsOffice x = Check.laid("w001;l05;b99;m999;k500;");
        x.convict(0, 0, 0, 0);
        x.convict(1, 0, 0, 0);
        check.due("B", x.ban(0, 0, LENGTH), 99);
        x.pass(999);
        x.convict(0, 500, 0, 0);
        check.due("2 B, 999 days later", x.ban(0, 1, LENGTH), 198);
        x.pass(1);
        x.convict(1, 500, 0, 0);
        check.due("B, 1000 days later", x.ban(1, 1, LENGTH), 99);
        x.pass(998);
        x.convict(0, 501, 0, 0);
        check.due("2 B, the first is forgotten", x.ban(0, 2, LENGTH), 198);
        x.convict(0, 502, 0, 0);
        check.due("4 B", x.ban(0, 3, LENGTH), 396);
    }

    private static void memoryByTheDayOfTheConviction() {
        check.part("was given (by the DAY of its CONVICTION)");
        PointsOffice x = Check.laid("w001;l05;b10;m050;k599;k500;");
        for (int d = 0; d < 3; d++) {
            x.convict(d, 0, 0, 0);
            dueBan(x, d, 1, 99, 10);
        }
        x.pass(50);
        x.convict(0, 1, 1, 0);
        check.due("50 days behind its conviction", x.ban(0, 2, LENGTH), 20);
        x.pass(1);
        x.convict(1, 1, 1, 0);
        check.due("51 days behind it", x.ban(1, 2, LENGTH), 10);
        x.pass(59);
        x.convict(2, 1, 1, 0);
        check.due("11 days behind its first day", x.ban(2, 2, LENGTH), 10);
    }

    private static void memoryOfHisGreatBansAlone() {
        check.part("one GREAT BAN of his");
        PointsOffice x = on(20, "w001;l05;b10;m050;k199;k500;");
        x.convict(0, 0, 0, 0);
        x.convict(1, 0, 1, 0);
        x.convict(0, 1, 1, 0);
        check.due("not PLAIN ones, not another's", x.ban(0, 1, LENGTH), 10);
        x.convict(0, 2, 1, 0);
        check.due("his", x.ban(0, 2, LENGTH), 20);
        x.strike(2);
        check.due("not one that was not given", x.ban(0, 1, LENGTH), 10);
    }

    private static void banThatGoesOnToDay() {
        check.part("if one of his BANS given so far goes on to t or longer");
        PointsOffice x = Check.laid("w001;l05;b10;m000;k110;k500;");
        for (int d = 0; d < 3; d++) {
            x.convict(d, 0, 0, 0);
            dueBan(x, d, 0, 0, 10);
        }
        x.pass(8);
        x.convict(0, 8, 1, 0);
        check.due("on longer than t", x.ban(0, 1, FIRST), 10);
        x.pass(1);
        x.convict(1, 9, 1, 0);
        check.due("on to t", x.ban(1, 1, FIRST), 10);
        x.pass(1);
        x.convict(2, 10, 1, 0);
        check.due("to the day ahead of t", x.ban(2, 1, FIRST), 10);
        x.convict(3, 10, 1, 0);
        check.due("none", x.ban(3, 0, FIRST), 10);
        x.pass(100);
        x.convict(2, 80, 1, 0);
        check.due("all ended long ago", x.ban(2, 2, FIRST), 110);
    }

    private static void behindThatWhichGoesOnLongest() {
        check.part("the DAY behind the last DAY of that which goes on longest");
        PointsOffice x = Check.laid("w001;l05;b10;m000;k199;k103;k500;k507;");
        x.convict(0, 0, 0, 0);
        x.convict(0, 0, 1, 0);
        x.convict(0, 0, 2, 0);
        check.due("behind the first of two", x.ban(0, 2, FIRST), 99);
        x.pass(1);
        x.convict(0, 0, 2, 0);
        check.due("behind one that has not begun", x.ban(0, 3, FIRST), 109);
        x.convict(1, 0, 3, 0);
        dueBan(x, 1, 0, 1, 7);
        check.due("behind its own", x.ban(1, 1, FIRST), 8);
        x.convict(2, 1, 2, 0);
        check.due("not behind another's", x.ban(2, 0, FIRST), 1);
        check.due("own ones at once", x.convict(0, 0, 1, 0), 6);
        check.due("on t", x.ban(0, 4, FIRST), 1);
    }

    private static void spentSoFar() {
        check.part("all his CONVICTIONS and COURSES so far, this one too, are SPENT");
        PointsOffice x = on(20, "w010;l05;b20;k100;k108;k500;");
        x.convict(0, 3, 0, 0);
        x.convict(0, 20, 1, 1);
        x.course(0, 0);
        x.course(0, 1);
        x.convict(1, 20, 0, 0);
        x.course(1, 0);
        x.convict(0, 3, 2, 0);
        x.convict(0, 3, 0, 1);
        x.pass(10);
        x.course(0, 0);
        int[] due = {1, 1, 1, 1, 0, 0, 1, 0, 0};
        for (int e = 0; e < due.length; e++) {
            check.due("event(" + e + ", 9)", x.event(e, SPENT), due[e]);
        }
        x.excuse(6);
        for (int e = 0; e < due.length; e++) {
            check.due("event(" + e + ", 9), no great ban", x.event(e, SPENT), 0);
        }
    }

    private static void spentCountNoMore() {
        check.part("not SPENT");
        PointsOffice x = on(20, "w010;l05;b20;k200;k300;k400;");
        x.convict(0, 11, 0, 0);
        x.convict(0, 12, 1, 0);
        check.due("5 of 5", bans(x, 0), 1);
        check.due("all SPENT", x.sum(0, 12), 0);
        x.convict(0, 13, 2, 0);
        check.due("4 of 5, the others SPENT", bans(x, 0), 1);
        check.due("4", x.sum(0, 12), 4);
        x.excuse(1);
        check.due("2 and 3 and 4", bans(x, 0), 1);
        check.due("by the third then", x.ban(0, 0, CONVICTION), 2);
    }

    private static void struckIsNothing() {
        check.part("a STRUCK CONVICTION: nothing");
        PointsOffice x = on(20, "w010;l05;b20;k210;k300;");
        x.convict(0, 20, 0, 0);
        x.convict(0, 20, 1, 0);
        check.due("own and great", bans(x, 0), 2);
        check.due("strike(0)", x.strike(0), ZERO - 30);
        check.due("none", bans(x, 0), 0);
        check.due("not DOUBLE", x.event(1, DOUBLE), 0);
        check.due("sum(0, 20)", x.sum(0, 20), 3);
        check.due("strike(1)", x.strike(1), ZERO);
        check.due("sum(0, 20)", x.sum(0, 20), 0);
        x.convict(0, 20, 1, 0);
        check.due("it brings no later one either", bans(x, 0), 0);
        PointsOffice y = on(20, "w010;l99;k210;k300;");
        y.convict(0, 20, 0, 0);
        y.convict(0, 20, 1, 0);
        check.due("DOUBLE", y.event(1, DOUBLE), 1);
        y.strike(1);
        check.due("not DOUBLE, struck", y.event(1, DOUBLE), 0);
        y.undo();
        check.due("DOUBLE again", y.event(1, DOUBLE), 1);
    }
}
