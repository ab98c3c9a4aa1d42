/** The boundaries that the document names of COURSES: the quarter, DAY t, SHORT, VOID (part 2, promise 11). */
public final class EdgesOfCoursesTest {
    private static final int BAD = PointsOffice.BAD, NO = PointsOffice.NO, FULL = PointsOffice.FULL;
    private static final int ZERO = PointsOffice.ZERO;
    private static final int MIN = Integer.MIN_VALUE, MAX = Integer.MAX_VALUE;
    private static final int FIRST = 0, LENGTH = 1, SHORT = 4;
    private static final int SPENT = 9, VOID = 10;
    private static final Check check = new Check();

    public static void main(String[] args) {
        lightOrLong();
        badAheadOfFullAheadOfNo();
        lightLessThanWDaysAhead();
        lightSpentOrNot();
        lightOnceItIsUndone();
        longOnADayOfABan();
        longNotAheadOfABan();
        longNotTwice();
        quarterThatIsCut();
        quarterOfTheLongest();
        dayStaysItsLastOneAtLeast();
        thatWhichGoesOnLongest();
        ofSeveralTheOneGivenLast();
        notShortYet();
        thatHaveDayT();
        firstDaysStay();
        voidOnceReckonedAnew();
        check.finish();
    }

    private static void lightOrLong() {
        check.part("LIGHT (kind = 0) or LONG (1)");
        Stand stand = new Stand(check, x -> x.convict(0, 0, 3, 0));
        PointsOffice x = stand.office();
        check.due("course(0, 0)", x.course(0, 0), 1);
        check.due("course(0, 1)", x.course(0, 1), 2);
        check.due("event(1, 2)", x.event(1, 2), 1);
        check.due("event(2, 2)", x.event(2, 2), 2);
        check.due("course(3, 0)", x.course(3, 0), 3);
        int[][] bad = {{-1, 0}, {4, 0}, {-1, 1}, {4, 1}, {0, -1}, {0, 2}, {MIN, 0}, {MAX, 1}, {0, MIN}, {0, MAX}};
        for (int[] a : bad) {
            stand.refuses("course(" + a[0] + ", " + a[1] + ")", BAD, y -> y.course(a[0], a[1]));
        }
    }

    private static void badAheadOfFullAheadOfNo() {
        check.part("of several the first: BAD; FULL; NO");
        Stand full = new Stand(check, x -> {
            x.course(0, 0);
            for (int i = 0; i < 39; i++) {
                x.convict(0, 0, 0, 1);
            }
        });
        full.refuses("BAD and FULL", BAD, x -> x.course(4, 0));
        full.refuses("BAD and FULL", BAD, x -> x.course(0, 2));
        full.refuses("FULL and NO, light", FULL, x -> x.course(0, 0));
        full.refuses("FULL and NO, long", FULL, x -> x.course(0, 1));
        full.refuses("FULL alone", FULL, x -> x.course(1, 0));
        Stand room = new Stand(check, x -> {
            x.course(0, 0);
            for (int i = 0; i < 38; i++) {
                x.convict(0, 0, 0, 1);
            }
        });
        room.refuses("NO, light", NO, x -> x.course(0, 0));
        room.refuses("NO, long", NO, x -> x.course(0, 1));
        check.due("room for one", room.office().course(1, 0), 39);
    }

    private static void lightLessThanWDaysAhead() {
        check.part("NO: LIGHT: he did one less than W DAYS ahead of TODAY");
        int[] windows = {1, 2, 60, 999};
        for (int w : windows) {
            String text = "k100;w" + String.format("%03d;", w);
            Stand justNot = new Stand(check, x -> {
                Check.writeAll(x, text);
                x.lay();
                x.pass(7);
                x.course(2, 0);
                x.pass(w - 1);
            });
            justNot.refuses("W - 1 days ahead, " + w, NO, x -> x.course(2, 0));
            PointsOffice x = justNot.office();
            check.due("another one", x.course(1, 0), 1);
            x.pass(1);
            check.due("W days ahead, " + w, x.course(2, 0), 2);
            check.due("now on that day", x.course(2, 0), NO);
        }
        PointsOffice y = new PointsOffice();
        y.course(0, 0);
        y.pass(20);
        y.rule(0, 21);
        check.due("by W as it is now", y.course(0, 0), NO);
        y.rule(0, 20);
        check.due("by W as it is now", y.course(0, 0), 1);
    }

    private static void lightSpentOrNot() {
        check.part("SPENT or not");
        Stand stand = new Stand(check, x -> {
            x.course(0, 0);
            x.convict(0, 0, 3, 0);
            x.convict(0, 0, 3, 0);
            x.pass(59);
        });
        check.due("it is SPENT", stand.office().event(0, SPENT), 1);
        stand.refuses("course(0, 0)", NO, x -> x.course(0, 0));
        PointsOffice x = stand.office();
        x.pass(1);
        check.due("course(0, 0), a day later", x.course(0, 0), 3);
    }

    private static void lightOnceItIsUndone() {
        check.part("he did one: not if it is UNDONE, not if it was LONG");
        PointsOffice x = new PointsOffice();
        x.course(0, 0);
        check.due("course(0, 0)", x.course(0, 0), NO);
        x.undo();
        check.due("course(0, 0), undone", x.course(0, 0), 0);
        x.convict(1, 0, 3, 0);
        x.course(1, 1);
        check.due("course(1, 0), a LONG one there", x.course(1, 0), 3);
    }

    private static void longOnADayOfABan() {
        check.part("NO: LONG: it would be VOID");
        Stand ahead = new Stand(check, x -> x.pass(99));
        ahead.refuses("none given", NO, x -> x.course(0, 1));
        Stand stand = new Stand(check, x -> {
            x.pass(100);
            x.convict(0, 40, 3, 0);
        });
        check.due("on its first day", stand.office().course(0, 1), 1);
        stand.refuses("another's ban", NO, x -> x.course(1, 1));
        PointsOffice x = stand.office();
        x.pass(19);
        check.due("on its last day", x.course(0, 1), 1);
        Stand behind = new Stand(check, y -> {
            y.pass(100);
            y.convict(0, 40, 3, 0);
            y.pass(20);
        });
        behind.refuses("a day behind it", NO, y -> y.course(0, 1));
    }

    private static void longNotAheadOfABan() {
        check.part("of all BANS that have DAY t: one that has not begun has not");
        PointsOffice x = Check.laid("w001;l05;b10;k510;");
        x.convict(0, 0, 0, 0);
        check.due("great ban from 10 on", x.ban(0, 1, FIRST), 10);
        check.due("course(0, 1)", x.course(0, 1), 1);
        check.due("the first one 0 to 7", x.ban(0, 0, LENGTH), 8);
        x.pass(7);
        check.due("on 7, short already", x.course(0, 1), NO);
        x.pass(2);
        check.due("on 9, a day ahead of the other", x.course(0, 1), NO);
        check.due("and not banned", x.banned(0, 9), 0);
        x.pass(1);
        check.due("on 10", x.course(0, 1), 2);
        check.due("10 less 2", x.ban(0, 1, LENGTH), 8);
    }

    private static void longNotTwice() {
        check.part("and are not SHORT yet");
        Stand stand = new Stand(check, x -> {
            x.convict(0, 0, 3, 0);
            x.course(0, 1);
        });
        stand.refuses("a second course", NO, x -> x.course(0, 1));
        PointsOffice x = stand.office();
        x.undo();
        check.due("SHORT no more", x.ban(0, 0, SHORT), 0);
        check.due("course(0, 1)", x.course(0, 1), 1);
    }

    private static void quarterThatIsCut() {
        check.part("its length less by a quarter (cut)");
        int[] lengths = {1, 2, 3, 4, 5, 7, 8, 10, 11, 12, 98, 99};
        int[] due = {1, 2, 3, 3, 4, 6, 6, 8, 9, 9, 74, 75};
        for (int i = 0; i < lengths.length; i++) {
            PointsOffice x = Check.laid("w001;l99;k1" + String.format("%02d;", lengths[i]));
            x.pass(30);
            x.convict(3, 0, 0, 0);
            check.due("not SHORT", x.ban(3, 0, SHORT), 0);
            check.due("course(3, 1)", x.course(3, 1), 1);
            check.due("length of " + lengths[i], x.ban(3, 0, LENGTH), due[i]);
            check.due("SHORT, nothing taken off or some", x.ban(3, 0, SHORT), 1);
            check.due("first day", x.ban(3, 0, FIRST), 30);
            check.due("last day", x.banned(3, 29 + due[i]), 1);
            check.due("a day behind", x.banned(3, 30 + due[i]), 0);
            check.due("days", x.days(3, 0, 99999), due[i]);
            check.due("free", x.free(3), 30 + due[i]);
        }
    }

    private static void quarterOfTheLongest() {
        check.part("a quarter of 4 B");
        PointsOffice x = Check.laid("w001;l05;b99;m999;k500;");
        for (int i = 0; i < 3; i++) {
            x.convict(0, 0, 0, 0);
        }
        check.due("first day", x.ban(0, 2, FIRST), 297);
        check.due("length", x.ban(0, 2, LENGTH), 396);
        x.pass(297);
        check.due("course(0, 1)", x.course(0, 1), 3);
        check.due("less 99", x.ban(0, 2, LENGTH), 297);
    }

    private static void dayStaysItsLastOneAtLeast() {
        check.part("but DAY t stays its last one at least");
        int[] days = {0, 13, 14, 15, 18, 19};
        int[] due = {15, 15, 15, 16, 19, 20};
        for (int i = 0; i < days.length; i++) {
            PointsOffice x = Check.laid("w001;l99;k120;");
            x.convict(0, 0, 0, 0);
            x.pass(days[i]);
            check.due("course(0, 1) on " + days[i], x.course(0, 1), 1);
            check.due("length, on " + days[i], x.ban(0, 0, LENGTH), due[i]);
            check.due("DAY t", x.banned(0, days[i]), 1);
            check.due("SHORT", x.ban(0, 0, SHORT), 1);
            check.due("not VOID", x.event(1, VOID), 0);
        }
    }

    private static void thatWhichGoesOnLongest() {
        check.part("that which goes on longest");
        PointsOffice x = Check.laid("w001;l99;k120;k119;k108;");
        x.convict(0, 0, 0, 0);
        x.pass(1);
        x.convict(0, 0, 2, 0);
        x.course(0, 1);
        check.due("0 to 19, given first", x.ban(0, 0, SHORT), 1);
        check.due("1 to 8, given last", x.ban(0, 1, SHORT), 0);
        x.convict(1, 0, 0, 0);
        x.pass(2);
        x.convict(1, 0, 1, 0);
        x.course(1, 1);
        check.due("3 to 21 goes on longer than the longer one", x.ban(1, 1, SHORT), 1);
        check.due("1 to 20", x.ban(1, 0, SHORT), 0);
    }

    private static void ofSeveralTheOneGivenLast() {
        check.part("of several the one given last");
        PointsOffice x = Check.laid("w001;l99;k120;k119;k118;");
        x.convict(0, 0, 0, 0);
        x.convict(1, 0, 0, 0);
        x.pass(1);
        x.convict(0, 0, 1, 0);
        x.convict(1, 0, 2, 0);
        x.course(0, 1);
        check.due("0 to 19", x.ban(0, 0, SHORT), 0);
        check.due("1 to 19", x.ban(0, 1, SHORT), 1);
        check.due("19 less 4", x.ban(0, 1, LENGTH), 15);
        x.course(1, 1);
        check.due("0 to 19, a day longer than the other", x.ban(1, 0, SHORT), 1);
        check.due("1 to 18", x.ban(1, 1, SHORT), 0);
    }

    private static void notShortYet() {
        check.part("of all that are not SHORT yet");
        PointsOffice x = Check.laid("w001;l99;k140;k104;");
        x.convict(0, 0, 0, 0);
        x.convict(0, 0, 1, 0);
        x.course(0, 1);
        check.due("the longer one", x.ban(0, 0, LENGTH), 30);
        check.due("course(0, 1)", x.course(0, 1), 3);
        check.due("goes on longest still", x.ban(0, 0, LENGTH), 30);
        check.due("then the other", x.ban(0, 1, LENGTH), 3);
        check.due("then none", x.course(0, 1), NO);
    }

    private static void thatHaveDayT() {
        check.part("that have DAY t");
        PointsOffice x = Check.laid("w001;l05;b50;k105;k500;");
        x.convict(0, 0, 0, 0);
        x.pass(4);
        x.convict(0, 0, 1, 0);
        check.due("a great ban from 5 on", x.ban(0, 1, FIRST), 5);
        check.due("course(0, 1) on 4", x.course(0, 1), 2);
        check.due("0 to 4 alone has DAY 4", x.ban(0, 0, SHORT), 1);
        check.due("which stays its last one", x.ban(0, 0, LENGTH), 5);
        check.due("not the longer one", x.ban(0, 1, SHORT), 0);
    }

    private static void firstDaysStay() {
        check.part("(First DAYS of other BANS stay as they were given.)");
        PointsOffice x = Check.laid("w001;l05;b10;m000;k520;k500;");
        x.convict(0, 0, 0, 0);
        check.due("behind the own one", x.ban(0, 1, FIRST), 20);
        x.course(0, 1);
        check.due("short", x.ban(0, 0, LENGTH), 15);
        check.due("as it was given", x.ban(0, 1, FIRST), 20);
        check.due("free(0)", x.free(0), 15);
        check.due("days in between", x.days(0, 15, 19), 0);
        check.due("days", x.days(0, 0, 99999), 25);
        PointsOffice y = Check.laid("w001;l05;b10;m000;k120;k500;");
        y.convict(0, 0, 0, 0);
        y.course(0, 1);
        y.convict(0, 0, 1, 0);
        check.due("given behind the short one", y.ban(0, 1, FIRST), 15);
    }

    private static void voidOnceReckonedAnew() {
        check.part("If there is none: nothing (it is VOID)");
        PointsOffice x = Check.laid("w001;l99;k120;k110;");
        x.convict(0, 0, 0, 0);
        x.convict(0, 0, 1, 0);
        x.course(0, 1);
        x.course(0, 1);
        check.due("neither is VOID", x.event(2, VOID) + x.event(3, VOID), 0);
        check.due("days", x.days(0, 0, 99999), 15);
        check.due("strike(0)", x.strike(0), ZERO - 7);
        check.due("the first takes what is there", x.event(2, VOID), 0);
        check.due("the second is VOID", x.event(3, VOID), 1);
        check.due("length", x.ban(0, 0, LENGTH), 8);
        check.due("strike(1)", x.strike(1), ZERO - 8);
        check.due("both are VOID", x.event(2, VOID) + x.event(3, VOID), 2);
        check.due("undo()", x.undo(), 5);
        check.due("undo()", x.undo(), 4);
        check.due("neither again", x.event(2, VOID) + x.event(3, VOID), 0);
    }
}
