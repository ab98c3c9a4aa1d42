/** The boundaries that the document names of days, changes, undoing, YEARS and EVENTS (promises 9, 10, 12 to 18). */
public final class EdgesOfChangesTest {
    private static final int BAD = PointsOffice.BAD, NO = PointsOffice.NO;
    private static final int FULL = PointsOffice.FULL, NONE = PointsOffice.NONE, ZERO = PointsOffice.ZERO;
    private static final int MIN = Integer.MIN_VALUE, MAX = Integer.MAX_VALUE;
    private static final Check check = new Check();

    public static void main(String[] args) {
        passDays();
        today9999AtMost();
        convictNumbers();
        convictBadAheadOfFull();
        eventsSuchAsThereAre();
        strikeOnce();
        strikeByZero();
        lowerTo0To8();
        lowerNoMoreThanThat();
        redateToTheDayOfTheConviction();
        redateThatIsSo();
        excuseThereAndBack();
        struckIsChangedNoMore();
        badGoesAheadOfNo();
        lastSixChanges();
        everyChangeIsOne();
        refusedIsNoChange();
        undoneLaidAndToday();
        undoneNoMoreThanThereAre();
        yearNumbers();
        yearDraws();
        yearOfManyTimes();
        yearToday9999AtMost();
        yearRoomForAnEvent();
        yearEachIsAChange();
        eventWhat();
        eventNone();
        check.finish();
    }

    private static void passDays() {
        check.part("so many DAYS later (0 to 9999)");
        Stand stand = new Stand(check, x -> x.convict(0, 0, 3, 0));
        stand.changesNothing("pass(0)", x -> x.pass(0));
        check.due("pass(0)", stand.office().pass(0), 0);
        check.due("pass(1)", stand.office().pass(1), 1);
        check.due("pass(9999)", stand.office().pass(9999), 9999);
        int[] bad = {-1, 10000, MIN, MAX};
        for (int days : bad) {
            stand.refuses("pass(" + days + ")", BAD, x -> x.pass(days));
        }
    }

    private static void today9999AtMost() {
        check.part("FULL: it would be more than 9999");
        Stand late = new Stand(check, x -> {
            x.pass(9990);
            x.convict(0, 9990, 3, 0);
        });
        check.due("pass(9)", late.office().pass(9), 9999);
        late.refuses("pass(10)", FULL, x -> x.pass(10));
        late.refuses("pass(9999)", FULL, x -> x.pass(9999));
        late.refuses("BAD ahead of FULL", BAD, x -> x.pass(10000));
        Stand last = new Stand(check, x -> x.pass(9999));
        check.due("pass(0)", last.office().pass(0), 9999);
        last.refuses("pass(1)", FULL, x -> x.pass(1));
        last.refuses("pass(-1)", BAD, x -> x.pass(-1));
        PointsOffice one = new PointsOffice();
        one.pass(1);
        check.due("pass(9999) on 1", one.pass(9999), FULL);
        check.due("pass(9998) on 1", one.pass(9998), 9999);
    }

    private static void convictNumbers() {
        check.part("A CONVICTION: DRIVERS 0 to 3, CODES such as there are, special = 1, 0");
        Stand stand = new Stand(check, x -> x.pass(7));
        int[][] right = {{0, 0, 0, 0}, {3, 0, 0, 0}, {0, 7, 0, 0}, {0, 0, 3, 0}, {0, 0, 0, 1}, {3, 7, 3, 1}};
        for (int[] a : right) {
            PointsOffice x = stand.office();
            check.due("convict", x.convict(a[0], a[1], a[2], a[3]), 0);
            check.due("its driver", x.event(0, 0), a[0]);
            check.due("its offence", x.event(0, 3), a[1]);
            check.due("its code", x.event(0, 4), a[2]);
            check.due("its reasons", x.event(0, 6), a[3]);
        }
        int[][] bad = {{-1, 0, 0, 0}, {4, 0, 0, 0}, {0, -1, 0, 0}, {0, 8, 0, 0}, {0, 0, -1, 0}, {0, 0, 4, 0},
            {0, 0, 0, -1}, {0, 0, 0, 2}, {MIN, 0, 0, 0}, {MAX, 0, 0, 0}, {0, MIN, 0, 0}, {0, MAX, 0, 0},
            {0, 0, MIN, 0}, {0, 0, MAX, 0}, {0, 0, 0, MIN}, {0, 0, 0, MAX}};
        for (int[] a : bad) {
            stand.refuses("convict with a wrong number", BAD, x -> x.convict(a[0], a[1], a[2], a[3]));
        }
        PointsOffice six = Check.laid("k100;k200;k300;k400;k500;k600;");
        check.due("the sixth code", six.convict(0, 0, 5, 0), 0);
        check.due("a seventh", six.convict(0, 0, 6, 0), BAD);
        PointsOffice one = Check.laid("k100;");
        check.due("the only code", one.convict(0, 0, 0, 0), 0);
        check.due("a second", one.convict(0, 0, 1, 0), BAD);
    }

    private static void fill(PointsOffice x, int events) {
        for (int e = 0; e < events; e++) {
            x.convict(e % 4, 0, e % 3, e % 2);
        }
    }

    private static void convictBadAheadOfFull() {
        check.part("of several the first: BAD; FULL");
        Stand full = new Stand(check, x -> fill(x, 40));
        full.refuses("FULL alone", FULL, x -> x.convict(0, 0, 0, 0));
        full.refuses("driver", BAD, x -> x.convict(4, 0, 0, 0));
        full.refuses("offence", BAD, x -> x.convict(0, 1, 0, 0));
        full.refuses("code", BAD, x -> x.convict(0, 0, 4, 0));
        full.refuses("special", BAD, x -> x.convict(0, 0, 0, 2));
    }

    private static void eventsSuchAsThereAre() {
        check.part("EVENTS such as there are; BAD (a COURSE, too)");
        int[] none = {0, -1, 1, 40, MIN, MAX};
        Stand empty = new Stand(check, x -> x.pass(5));
        for (int e : none) {
            refuseAll(empty, e);
        }
        Stand stand = new Stand(check, x -> {
            x.convict(0, 0, 3, 0);
            x.course(0, 0);
            x.course(0, 1);
            x.convict(0, 0, 3, 0);
        });
        int[] beside = {-1, 1, 2, 4, 39, 40, 41, MIN, MAX};
        for (int e : beside) {
            refuseAll(stand, e);
        }
        // the last is DOUBLE and brings a great ban of 10 days only behind the first
        check.due("the first", stand.office().strike(0), ZERO - 10);
        check.isTrue("the last", stand.office().strike(3) > 0);
        Stand full = new Stand(check, x -> fill(x, 40));
        check.isTrue("the 40th", full.office().strike(39) > 0);
        refuseAll(full, 40);
        PointsOffice x = stand.office();
        x.undo();
        check.due("one that is undone", x.strike(3), BAD);
    }

    private static void refuseAll(Stand stand, int e) {
        stand.refuses("strike(" + e + ")", BAD, x -> x.strike(e));
        stand.refuses("lower(" + e + ", 1)", BAD, x -> x.lower(e, 1));
        stand.refuses("redate(" + e + ", 0)", BAD, x -> x.redate(e, 0));
        stand.refuses("excuse(" + e + ")", BAD, x -> x.excuse(e));
    }

    private static void strikeOnce() {
        check.part("STRUCK. NO: it is");
        Stand struck = new Stand(check, x -> {
            x.convict(0, 0, 3, 0);
            x.convict(0, 0, 0, 0);
            x.strike(0);
        });
        struck.refuses("strike(0)", NO, x -> x.strike(0));
        check.due("the other one", struck.office().strike(1), ZERO);
        PointsOffice x = struck.office();
        x.undo();
        check.due("once that is undone", x.strike(0), ZERO - 30);
    }

    private static void strikeByZero() {
        check.part("on how many DAYS in all he is BANNED then, less on how many he was, and ZERO");
        PointsOffice x = Check.laid("w010;l10;b10;k120;k900;");
        x.convict(0, 0, 0, 0);
        x.convict(1, 0, 0, 0);
        check.due("20 fewer", x.strike(0), ZERO - 20);
        check.due("another's days do not count", x.days(1, 0, 99999), 20);
        x.convict(2, 0, 0, 0);
        x.pass(9);
        x.convict(2, 9, 0, 1);
        // 0 to 19 and 9 to 28
        check.due("the days of both", x.strike(2), ZERO - 9);
        x.convict(3, 0, 1, 0);
        check.due("no ban", x.strike(4), ZERO);
        // 9 and 2 bring a great ban and are SPENT; without the 9 the 2 are there for the third
        PointsOffice y = Check.laid("w010;l10;b10;m100;k900;k200;");
        y.pass(5);
        y.convict(0, 4, 0, 0);
        y.convict(0, 4, 1, 0);
        y.pass(45);
        y.convict(0, 4, 0, 0);
        check.due("a ban comes as one goes", y.ban(0, 0, 0), 5);
        check.due("strike(0)", y.strike(0), ZERO);
        check.due("on another day", y.ban(0, 0, 0), 50);
    }

    private static void lowerTo0To8() {
        check.part("LOWERED to POINTS (0 to 8)");
        Stand stand = new Stand(check, x -> {
            x.convict(0, 0, 3, 0);
            x.convict(0, 0, 0, 0);
        });
        check.due("lower(0, 8)", stand.office().lower(0, 8), ZERO);
        check.due("lower(0, 0)", stand.office().lower(0, 0), ZERO - 10);
        int[] bad = {-1, 9, 10, MIN, MAX};
        for (int points : bad) {
            stand.refuses("lower(0, " + points + ")", BAD, x -> x.lower(0, points));
        }
    }

    private static void lowerNoMoreThanThat() {
        check.part("NO: they are no more than that");
        Stand stand = new Stand(check, x -> {
            x.convict(0, 0, 1, 0);
            x.convict(0, 0, 1, 0);
        });
        check.due("one less", stand.office().lower(0, 5), ZERO - 10);
        stand.refuses("as many", NO, x -> x.lower(0, 6));
        stand.refuses("one more", NO, x -> x.lower(0, 7));
        stand.refuses("the most", NO, x -> x.lower(0, 8));
        Stand low = new Stand(check, x -> {
            x.convict(0, 0, 1, 0);
            x.lower(0, 1);
        });
        low.refuses("up to what they were", NO, x -> x.lower(0, 6));
        low.refuses("as they are now", NO, x -> x.lower(0, 1));
        PointsOffice x = low.office();
        check.due("lower(0, 0)", x.lower(0, 0), ZERO);
        check.due("0 are no more than 0", x.lower(0, 0), NO);
        check.due("event(0, 5)", x.event(0, 5), 0);
        check.due("seen(0, 0, 0)", x.seen(0, 0, 0), 1);
    }

    private static void redateToTheDayOfTheConviction() {
        check.part("another DAY (0 to the DAY of the CONVICTION)");
        Stand stand = new Stand(check, x -> {
            x.pass(30);
            x.convict(0, 20, 1, 0);
            x.pass(10);
            x.convict(0, 40, 1, 0);
            x.pass(5);
        });
        check.due("DAY 0", stand.office().redate(0, 0), ZERO);
        check.due("its DAY", stand.office().redate(0, 30), ZERO);
        int[] bad = {-1, 31, 40, 45, MIN, MAX};
        for (int day : bad) {
            stand.refuses("redate(0, " + day + ")", BAD, x -> x.redate(0, day));
        }
        check.due("the other's DAY", stand.office().redate(1, 39), ZERO);
        stand.refuses("behind it, ahead of TODAY", BAD, x -> x.redate(1, 41));
        PointsOffice x = stand.office();
        x.redate(0, 0);
        check.due("event(0, 3)", x.event(0, 3), 0);
        check.due("event(0, 1)", x.event(0, 1), 30);
        x.rule(0, 40);
        check.due("days", x.days(0, 0, 99999), 0);
        check.due("W - 1 days apart", x.redate(0, 1), ZERO + 10);
        check.due("W days apart", x.redate(0, 0), ZERO - 10);
    }

    private static void redateThatIsSo() {
        check.part("NO: it is so");
        Stand stand = new Stand(check, x -> {
            x.pass(30);
            x.convict(0, 20, 1, 0);
        });
        stand.refuses("redate(0, 20)", NO, x -> x.redate(0, 20));
        check.due("redate(0, 19)", stand.office().redate(0, 19), ZERO);
        check.due("redate(0, 21)", stand.office().redate(0, 21), ZERO);
        PointsOffice x = stand.office();
        x.redate(0, 21);
        check.due("so since", x.redate(0, 21), NO);
        check.due("as it was", x.redate(0, 20), ZERO);
    }

    private static void excuseThereAndBack() {
        check.part("With SPECIAL reasons, if without, or without");
        PointsOffice x = new PointsOffice();
        x.convict(0, 0, 1, 1);
        x.convict(0, 0, 1, 0);
        check.due("with", x.excuse(1), ZERO - 10);
        check.due("event(1, 6)", x.event(1, 6), 1);
        check.due("without", x.excuse(1), ZERO + 10);
        check.due("event(1, 6)", x.event(1, 6), 0);
        check.due("without, told with", x.excuse(0), ZERO);
        check.due("event(0, 6)", x.event(0, 6), 0);
    }

    private static void struckIsChangedNoMore() {
        check.part("NO: it is STRUCK");
        Stand stand = new Stand(check, x -> {
            x.pass(10);
            x.convict(0, 5, 3, 0);
            x.convict(0, 5, 3, 0);
            x.strike(0);
        });
        stand.refuses("lower(0, 8)", NO, x -> x.lower(0, 8));
        stand.refuses("lower(0, 0)", NO, x -> x.lower(0, 0));
        stand.refuses("redate(0, 6)", NO, x -> x.redate(0, 6));
        stand.refuses("redate(0, 5)", NO, x -> x.redate(0, 5));
        stand.refuses("excuse(0)", NO, x -> x.excuse(0));
        stand.refuses("strike(0)", NO, x -> x.strike(0));
        PointsOffice x = stand.office();
        check.due("the other, not struck", x.excuse(1), ZERO);
        check.due("the other, not struck", x.lower(1, 8), ZERO);
        check.due("the other, not struck", x.redate(1, 6), ZERO);
    }

    private static void badGoesAheadOfNo() {
        check.part("of several the first: BAD; NO");
        Stand stand = new Stand(check, x -> {
            x.pass(10);
            x.convict(0, 5, 3, 0);
            x.strike(0);
        });
        stand.refuses("lower(0, 9)", BAD, x -> x.lower(0, 9));
        stand.refuses("lower(0, -1)", BAD, x -> x.lower(0, -1));
        stand.refuses("redate(0, 11)", BAD, x -> x.redate(0, 11));
        stand.refuses("redate(0, -1)", BAD, x -> x.redate(0, -1));
        stand.refuses("rule(0, 0)", BAD, x -> x.rule(0, 0));
    }

    private static void lastSixChanges() {
        check.part("UNDONE is the latest change (the last 6 can be)");
        for (int changes = 0; changes <= 9; changes++) {
            PointsOffice x = new PointsOffice();
            for (int i = 1; i <= changes; i++) {
                x.rule(2, 50 + i);
            }
            int can = Math.min(6, changes);
            check.due("count(3) of " + changes, x.count(3), can);
            for (int left = can - 1; left >= 0; left--) {
                check.due("undo()", x.undo(), left);
                int told = changes - (can - left);
                check.due("count(7)", x.count(7), told == 0 ? 10 : 50 + told);
            }
            check.due("undo(), no more", x.undo(), NO);
            check.due("count(7)", x.count(7), changes <= 6 ? 10 : 50 + changes - 6);
        }
        Stand forgotten = new Stand(check, x -> {
            for (int i = 1; i <= 7; i++) {
                x.rule(2, 50 + i);
            }
            for (int i = 0; i < 6; i++) {
                x.undo();
            }
        });
        forgotten.refuses("undo() of the seventh", NO, x -> x.undo());
    }

    private static void everyChangeIsOne() {
        check.part("A change: an EVENT comes; STRUCK, LOWERED, told with another DAY, SPECIAL reasons; a rule");
        PointsOffice x = new PointsOffice();
        x.pass(10);
        x.convict(0, 5, 3, 0);
        check.due("a conviction", x.count(3), 1);
        x.course(0, 0);
        check.due("light", x.count(3), 2);
        x.course(0, 1);
        check.due("long", x.count(3), 3);
        x.lower(0, 7);
        check.due("lowered", x.count(3), 4);
        x.redate(0, 4);
        check.due("another day", x.count(3), 5);
        x.excuse(0);
        check.due("special reasons", x.count(3), 6);
        x.strike(0);
        check.due("struck, a seventh", x.count(3), 6);
        check.due("undo() of strike", x.undo(), 5);
        check.due("event(0, 7)", x.event(0, 7), 0);
        check.due("undo() of excuse", x.undo(), 4);
        check.due("event(0, 6)", x.event(0, 6), 0);
        check.due("undo() of redate", x.undo(), 3);
        check.due("event(0, 3)", x.event(0, 3), 5);
        check.due("undo() of lower", x.undo(), 2);
        check.due("event(0, 5)", x.event(0, 5), 9);
        check.due("undo() of long", x.undo(), 1);
        check.due("ban(0, 0, 4)", x.ban(0, 0, 4), 0);
        check.due("undo() of light", x.undo(), 0);
        check.due("the conviction stays", x.count(1), 1);
        check.due("undo(), no more", x.undo(), NO);
    }

    private static void refusedIsNoChange() {
        check.part("what is no change");
        Stand stand = new Stand(check, x -> {
            x.pass(10);
            x.convict(0, 5, 3, 0);
            x.rule(1, 13);
        });
        stand.changesNothing("would", x -> x.would(0, 5, 3));
        stand.changesNothing("would of another", x -> x.would(1, 10, 1));
        stand.changesNothing("need", x -> x.need(0));
        stand.changesNothing("sum", x -> x.sum(0, 5));
        stand.changesNothing("event", x -> x.event(0, 8));
        stand.changesNothing("seen", x -> x.seen(3, 0, 1));
        stand.changesNothing("days", x -> x.days(0, 0, 99999));
        PointsOffice x = stand.office();
        x.pass(1);
        x.write('k');
        x.wipe();
        check.due("count(3)", x.count(3), 2);
        check.due("undo()", x.undo(), 1);
        check.due("count(6)", x.count(6), 12);
    }

    private static void undoneLaidAndToday() {
        check.part("LAID none; TODAY stays");
        PointsOffice x = new PointsOffice();
        x.pass(10);
        x.convict(0, 5, 3, 0);
        x.pass(9);
        check.due("undo()", x.undo(), 0);
        check.due("TODAY", x.count(2), 19);
        check.due("count(11)", x.count(11), 0);
        x.rule(0, 50);
        Check.writeAll(x, "k100;");
        x.lay();
        Stand laid = new Stand(check, y -> {
            y.rule(0, 50);
            Check.writeAll(y, "k100;");
            y.lay();
        });
        laid.refuses("undo()", NO, y -> y.undo());
        check.due("undo() behind lay()", x.undo(), NO);
        check.due("count(5)", x.count(5), 100);
    }

    private static void undoneNoMoreThanThereAre() {
        check.part("undo: NO");
        Stand first = new Stand(check, x -> x.pass(3));
        first.refuses("undo() of a new one", NO, x -> x.undo());
        Stand all = new Stand(check, x -> {
            x.convict(0, 0, 3, 0);
            x.undo();
        });
        all.refuses("undo() once all are", NO, x -> x.undo());
        PointsOffice x = all.office();
        check.due("convict, its number again", x.convict(1, 0, 0, 0), 0);
        check.due("undo()", x.undo(), 0);
    }

    private static int draw(int z, int k) {
        long x = 7919L * z + 6151L * k + 1;
        return (int) (x * x % 65521);
    }

    private static void yearNumbers() {
        check.part("A YEAR by z (0 to 9999) of n (1 to 20)");
        Stand stand = new Stand(check, x -> x.convict(0, 0, 0, 0));
        check.due("year(0, 1)", stand.office().year(0, 1), 1);
        check.due("year(9999, 1)", stand.office().year(9999, 1), 1);
        check.due("year(0, 20)", stand.office().year(0, 20), 20);
        check.due("year(9999, 20)", stand.office().year(9999, 20), 20);
        int[][] bad = {{-1, 1}, {10000, 1}, {0, 0}, {0, 21}, {0, -1}, {MIN, 1}, {MAX, 1}, {0, MIN}, {0, MAX}, {-1, 21}};
        for (int[] a : bad) {
            stand.refuses("year(" + a[0] + ", " + a[1] + ")", BAD, x -> x.year(a[0], a[1]));
        }
    }

    private static void yearDraws() {
        check.part("every z's first DRAW; the OFFENCE on DAY 0, if that is later");
        int clamped = 0;
        for (int z = 0; z <= 9999; z++) {
            PointsOffice x = new PointsOffice();
            int draw = draw(z, 0);
            check.due("year(" + z + ", 1)", x.year(z, 1), 1);
            int today = draw % 16;
            int offence = today - draw / 256 % 32;
            check.due("TODAY of " + z, x.count(2), today);
            check.due("driver of " + z, x.event(0, 0), draw / 16 % 4);
            check.due("code of " + z, x.event(0, 4), draw / 64 % 4);
            check.due("offence of " + z, x.event(0, 3), offence < 0 ? 0 : offence);
            check.due("special of " + z, x.event(0, 6), 0);
            clamped += offence < 0 ? 1 : 0;
        }
        check.isTrue("both kinds of offence", clamped > 1000 && clamped < 9000);
    }

    private static void yearOfManyTimes() {
        check.part("the k-th time (0 first), modulo the CODES");
        for (int codes = 1; codes <= 6; codes++) {
            PointsOffice x = Check.laid("k100;k200;k300;k400;k500;k600;".substring(0, 5 * codes));
            x.pass(100);
            check.due("year", x.year(9998 + codes % 2, 20), 20);
            int today = 100;
            for (int k = 0; k < 20; k++) {
                int draw = draw(9998 + codes % 2, k);
                today += draw % 16;
                check.due("day", x.event(k, 1), today);
                check.due("driver", x.event(k, 0), draw / 16 % 4);
                check.due("code", x.event(k, 4), draw / 64 % codes);
                check.due("offence", x.event(k, 3), today - draw / 256 % 32);
                check.due("conviction", x.event(k, 2), 0);
            }
            check.due("TODAY", x.count(2), today);
        }
    }

    private static void yearToday9999AtMost() {
        check.part("TODAY (9999 at most) in a YEAR");
        // DRAW is 1: a day later, the offence on that day
        check.due("DRAW", draw(0, 0), 1);
        PointsOffice just = new PointsOffice();
        just.pass(9998);
        check.due("year(0, 1) on 9998", just.year(0, 1), 1);
        check.due("TODAY", just.count(2), 9999);
        check.due("year(0, 1) on 9999", just.year(0, 1), 1);
        check.due("TODAY stays", just.count(2), 9999);
        check.due("its day", just.event(1, 1), 9999);
        check.due("its offence", just.event(1, 3), 9999);
        PointsOffice x = new PointsOffice();
        x.pass(9980);
        x.year(4, 20);
        int today = 9980;
        for (int k = 0; k < 20; k++) {
            today = Math.min(9999, today + draw(4, k) % 16);
            check.due("day", x.event(k, 1), today);
            check.due("offence", x.event(k, 3), today - draw(4, k) / 256 % 32);
        }
        check.due("TODAY", x.count(2), 9999);
    }

    private static void yearRoomForAnEvent() {
        check.part("if there is room for an EVENT");
        int later = 0;
        for (int k = 0; k < 20; k++) {
            later += draw(123, k) % 16;
        }
        int[] there = {19, 20, 21, 39, 40};
        int[] due = {20, 20, 19, 1, 0};
        for (int i = 0; i < there.length; i++) {
            PointsOffice x = new PointsOffice();
            fill(x, there[i]);
            check.due("year with " + there[i] + " there", x.year(123, 20), due[i]);
            check.due("count(1)", x.count(1), Math.min(40, there[i] + 20));
            check.due("TODAY comes all the same", x.count(2), later);
        }
    }

    private static void yearEachIsAChange() {
        check.part("how many EVENTS came (each is a change)");
        PointsOffice x = new PointsOffice();
        x.rule(1, 99);
        x.year(5, 3);
        check.due("count(3)", x.count(3), 4);
        int today = x.count(2);
        check.due("undo()", x.undo(), 3);
        check.due("undo()", x.undo(), 2);
        check.due("undo()", x.undo(), 1);
        check.due("count(1)", x.count(1), 0);
        check.due("TODAY stays", x.count(2), today);
        check.due("undo()", x.undo(), 0);
        check.due("count(6)", x.count(6), 12);
        x.year(5, 20);
        check.due("count(3)", x.count(3), 6);
        for (int left = 5; left >= 0; left--) {
            check.due("undo()", x.undo(), left);
        }
        check.due("count(1)", x.count(1), 14);
        Stand full = new Stand(check, y -> fill(y, 40));
        PointsOffice y = full.office();
        y.year(5, 20);
        check.due("none came, no change", y.undo(), 5);
        check.due("the 40th is undone", y.count(1), 39);
    }

    private static void eventWhat() {
        check.part("Of an EVENT: what = 0 to 10");
        Stand stand = new Stand(check, x -> {
            x.convict(0, 0, 3, 0);
            x.course(0, 0);
            x.course(0, 1);
        });
        int[] bad = {-1, 11, MIN, MAX};
        for (int e = 0; e < 3; e++) {
            int event = e;
            for (int what : bad) {
                stand.refuses("event(" + e + ", " + what + ")", BAD, x -> x.event(event, what));
            }
        }
        int[] none = {-1, 3, 40, MIN, MAX};
        for (int e : none) {
            for (int what = -1; what <= 11; what++) {
                check.due("event(" + e + ", " + what + ")", stand.office().event(e, what), BAD);
            }
        }
        PointsOffice empty = new PointsOffice();
        check.due("event(0, 0) of none", empty.event(0, 0), BAD);
        fill(empty, 40);
        check.due("event(39, 0)", empty.event(39, 0), 3);
        check.due("event(40, 0)", empty.event(40, 0), BAD);
    }

    private static void eventNone() {
        check.part("NONE: it is none such");
        PointsOffice x = new PointsOffice();
        x.pass(2);
        x.convict(3, 1, 3, 0);
        x.course(3, 0);
        x.course(3, 1);
        int[][] due = {
            {3, 2, 0, 1, 3, 9, 0, 0, 0, 0, NONE},
            {3, 2, 1, NONE, NONE, NONE, NONE, NONE, NONE, 0, NONE},
            {3, 2, 2, NONE, NONE, NONE, NONE, NONE, NONE, 0, 0}};
        for (int e = 0; e < 3; e++) {
            for (int what = 0; what <= 10; what++) {
                check.due("event(" + e + ", " + what + ")", x.event(e, what), due[e][what]);
            }
        }
        anotherEventInItsPlace();
    }

    private static void anotherEventInItsPlace() {
        check.part("an EVENT where another one was");
        PointsOffice x = new PointsOffice();
        x.convict(0, 0, 3, 0);
        x.course(0, 1);
        x.undo();
        check.due("convict where a course was", x.convict(1, 0, 1, 0), 1);
        int[] conviction = {1, 0, 0, 0, 1, 6, 0, 0, 0, 0, NONE};
        for (int what = 0; what <= 10; what++) {
            check.due("event(1, " + what + ")", x.event(1, what), conviction[what]);
        }
        x.strike(0);
        Check.writeAll(x, "k700;");
        x.lay();
        check.due("convict where a struck one was", x.convict(2, 0, 0, 0), 0);
        check.due("not struck", x.event(0, 7), 0);
        check.due("it counts", x.sum(2, 0), 7);
        // a course where a conviction was that was changed and undone
        PointsOffice y = new PointsOffice();
        y.convict(0, 0, 3, 1);
        y.strike(0);
        y.undo();
        y.undo();
        y.course(0, 0);
        check.due("event(0, 7)", y.event(0, 7), NONE);
        check.due("event(0, 6)", y.event(0, 6), NONE);
        check.due("seen(0, 0, 0)", y.seen(0, 0, 0), 0);
    }
}
