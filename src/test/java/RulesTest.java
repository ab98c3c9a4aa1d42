/** Promises 1 to 8: a new object, THE TEXT, its fault and reason, what is laid, rules and codes. */
public final class RulesTest {
    private static final Check check = new Check();

    public static void main(String[] args) {
        newObject();
        write();
        wipe();
        faults();
        faultsMetFirst();
        sevenCodes();
        lay();
        layRefused();
        layEndsAll();
        rule();
        ruleReckonsAnew();
        code();
        check.finish();
    }

    private static void newObject() {
        check.part("promise 1");
        PointsOffice x = new PointsOffice();
        int[] counts = {4, 0, 0, 0, 0, 60, 12, 10, 150, 120, 90, 0};
        for (int what = 0; what < counts.length; what++) {
            check.due("count(" + what + ")", x.count(what), counts[what]);
        }
        int[][] codes = {{3, 0}, {6, 0}, {4, 5}, {9, 20}};
        for (int k = 0; k < codes.length; k++) {
            check.due("code(" + k + ", 0)", x.code(k, 0), codes[k][0]);
            check.due("code(" + k + ", 1)", x.code(k, 1), codes[k][1]);
        }
        check.due("undo()", x.undo(), PointsOffice.NO);
        check.due("fault()", x.fault(), PointsOffice.NONE);
        check.due("reason()", x.reason(), PointsOffice.NONE);
        check.due("lay() of no text", x.lay(), PointsOffice.NO);
        for (int d = 0; d < 4; d++) {
            check.due("free(d)", x.free(d), 0);
            check.due("ban(d, -1, 0)", x.ban(d, -1, 0), 0);
            check.due("need(d)", x.need(d), 12);
        }
    }

    private static void write() {
        check.part("promise 2");
        PointsOffice x = new PointsOffice();
        int[] bad = {31, 127, 0, -1, 128, 255, Integer.MIN_VALUE, Integer.MAX_VALUE};
        for (int letter : bad) {
            check.due("write(" + letter + ")", x.write(letter), PointsOffice.BAD);
        }
        check.due("count(4)", x.count(4), 0);
        check.due("write(32)", x.write(32), 1);
        check.due("write(126)", x.write(126), 2);
        for (int length = 3; length <= 200; length++) {
            check.due("write", x.write('k'), length);
        }
        check.due("write(107) on 200", x.write('k'), PointsOffice.FULL);
        check.due("write(31) on 200", x.write(31), PointsOffice.BAD);
        check.due("count(4)", x.count(4), 200);
        check.due("wipe()", x.wipe(), 200);
        check.due("write(107)", x.write('k'), 1);
    }

    private static void wipe() {
        check.part("promise 3");
        PointsOffice x = new PointsOffice();
        check.due("wipe()", x.wipe(), 0);
        Check.writeAll(x, "k1");
        check.due("wipe()", x.wipe(), 2);
        check.due("wipe()", x.wipe(), 0);
        check.due("count(4)", x.count(4), 0);
        check.due("fault()", x.fault(), PointsOffice.NONE);
        check.due("count(0)", x.count(0), 4);
    }

    private static void fault(String text, int place, int reason) {
        PointsOffice x = new PointsOffice();
        Check.writeAll(x, text);
        check.due("fault() of " + text, x.fault(), place);
        check.due("reason() of " + text, x.reason(), reason);
        check.due("fault() again", x.fault(), place);
        PointsOffice other = new PointsOffice();
        Check.writeAll(other, text);
        check.due("reason() ahead of fault() of " + text, other.reason(), reason);
        check.due("count(4)", x.count(4), text.length());
        if (place >= 0) {
            check.due("lay() of " + text, x.lay(), PointsOffice.NO);
        }
    }

    private static void faults() {
        check.part("promises 4, 5");
        int none = PointsOffice.NONE;
        String[] right = {"w001;", "w999;", "l01;", "l99;", "b01;", "b99;", "m000;", "m999;", "s000000;",
            "s999999;", "k100;", "k999;", "", "k100;w010;l05;b02;m000;s001002;k200;",
            "k100;k100;k100;k100;k100;k100;w100;w002;"};
        for (String text : right) {
            fault(text, none, none);
        }
        String[] outOfRange = {"w000;", "l00;", "b00;", "k000;", "k0"};
        for (String text : outOfRange) {
            fault(text, 0, 2);
            fault("m010;" + text, 5, 2);
        }
        String[] unfinished = {"w", "w0", "w00", "w010", "w010 ", "w10;", "w0100;", "w-10;", "l1", "l1;", "l12",
            "b", "b1x;", "m00;", "m000", "s120;", "s12009;", "s120090", "s1200900;", "k", "k;", "k1", "k10", "k10;",
            "k100", "k1000;", "w01/;", "w01:;", "w 10;"};
        for (String text : unfinished) {
            fault(text, 0, 1);
            fault("k100;" + text, 5, 1);
        }
        String[] strange = {";", "0", "W010;", "x", " ", "K100;", "a", "~"};
        for (String text : strange) {
            fault(text, 0, 3);
            fault("l12;s000000;" + text, 12, 3);
        }
        fault("w010; l12;", 5, 3);
        fault("w010;;", 5, 3);
    }

    private static void faultsMetFirst() {
        check.part("promises 4, 5: what is met first");
        fault("w000", 0, 2);
        fault("w000x", 0, 2);
        fault("w00x", 0, 1);
        fault("w00", 0, 1);
        fault("k0xx", 0, 2);
        fault("kx", 0, 1);
        fault("k1x0;", 0, 1);
        fault("l00;q", 0, 2);
        fault("q;l00;", 0, 3);
        fault("l12;b1;w000;", 4, 1);
    }

    private static void sevenCodes() {
        check.part("promises 4, 5: seven codes");
        String six = "k100;k200;k300;k400;k500;k600;";
        fault(six + "k", 30, 3);
        fault(six + "k000;", 30, 3);
        fault(six + "k700;", 30, 3);
        fault(six + "w010;k700;", 35, 3);
        fault(six + "w010;", PointsOffice.NONE, PointsOffice.NONE);
    }

    private static void lay() {
        check.part("promise 6");
        PointsOffice x = new PointsOffice();
        Check.writeAll(x, "k742;");
        check.due("lay()", x.lay(), 1);
        int[] untold = {1, 0, 0, 0, 5, 100, 12, 10, 200, 300, 150, 0};
        for (int what = 0; what < untold.length; what++) {
            check.due("count(" + what + ")", x.count(what), untold[what]);
        }
        check.due("code(0, 0)", x.code(0, 0), 7);
        check.due("code(0, 1)", x.code(0, 1), 42);
        check.due("code(1, 0)", x.code(1, 0), PointsOffice.BAD);
        x.wipe();
        Check.writeAll(x, "w007;l01;l08;b09;m010;s011012;k100;k213;k399;k400;k500;k601;w006;s021022;");
        check.due("lay()", x.lay(), 6);
        int[] told = {6, 0, 0, 0, 73, 6, 8, 9, 10, 21, 22, 0};
        for (int what = 0; what < told.length; what++) {
            check.due("count(" + what + ")", x.count(what), told[what]);
        }
        check.due("code(2, 1)", x.code(2, 1), 99);
        check.due("code(5, 0)", x.code(5, 0), 6);
        check.due("code(5, 1)", x.code(5, 1), 1);
        check.due("lay() again", x.lay(), 6);
    }

    private static void layRefused() {
        check.part("promise 6: NO");
        PointsOffice x = new PointsOffice();
        x.pass(5);
        x.convict(0, 5, 3, 0);
        Check.writeAll(x, "w010;l05;");
        check.due("lay() without a code", x.lay(), PointsOffice.NO);
        Check.writeAll(x, "k200;w");
        check.due("lay() with a fault", x.lay(), PointsOffice.NO);
        check.due("fault()", x.fault(), 14);
        int[] kept = {4, 1, 5, 1, 15, 60, 12, 10, 150, 120, 90, 1};
        for (int what = 0; what < kept.length; what++) {
            check.due("count(" + what + ")", x.count(what), kept[what]);
        }
        check.due("code(0, 0)", x.code(0, 0), 3);
        check.due("undo()", x.undo(), 0);
    }

    private static void layEndsAll() {
        check.part("promise 6: no events, day 0");
        PointsOffice x = new PointsOffice();
        x.pass(50);
        x.convict(0, 5, 3, 0);
        x.rule(0, 20);
        Check.writeAll(x, "k900;");
        check.due("lay()", x.lay(), 1);
        check.due("count(1)", x.count(1), 0);
        check.due("count(2)", x.count(2), 0);
        check.due("count(3)", x.count(3), 0);
        check.due("count(4)", x.count(4), 5);
        check.due("count(11)", x.count(11), 0);
        check.due("undo()", x.undo(), PointsOffice.NO);
        check.due("event(0, 0)", x.event(0, 0), PointsOffice.BAD);
        check.due("convict(0, 0, 0, 0)", x.convict(0, 0, 0, 0), 0);
        check.due("event(0, 8)", x.event(0, 8), 0);
        check.due("event(0, 9)", x.event(0, 9), 0);
    }

    private static void rule() {
        check.part("promise 7");
        int[] least = {1, 1, 1, 0, 0, 0};
        int[] most = {999, 99, 99, 999, 999, 999};
        int[] first = {60, 12, 10, 150, 120, 90};
        for (int what = 0; what < 6; what++) {
            PointsOffice x = new PointsOffice();
            check.due("rule below", x.rule(what, least[what] - 1), PointsOffice.BAD);
            check.due("rule above", x.rule(what, most[what] + 1), PointsOffice.BAD);
            check.due("rule as it is", x.rule(what, first[what]), PointsOffice.NO);
            check.due("count(3)", x.count(3), 0);
            check.due("rule least", x.rule(what, least[what]), first[what]);
            check.due("count", x.count(5 + what), least[what]);
            check.due("rule most", x.rule(what, most[what]), least[what]);
            check.due("count", x.count(5 + what), most[what]);
            check.due("count(3)", x.count(3), 2);
            check.due("undo()", x.undo(), 1);
            check.due("count", x.count(5 + what), least[what]);
            check.due("undo()", x.undo(), 0);
            for (int other = 0; other < 6; other++) {
                check.due("count", x.count(5 + other), first[other]);
            }
        }
        PointsOffice x = new PointsOffice();
        int[] none = {-1, 6, Integer.MIN_VALUE, Integer.MAX_VALUE};
        for (int what : none) {
            check.due("rule(" + what + ", 50)", x.rule(what, 50), PointsOffice.BAD);
        }
        check.due("rule(0, MIN)", x.rule(0, Integer.MIN_VALUE), PointsOffice.BAD);
        check.due("rule(0, MAX)", x.rule(0, Integer.MAX_VALUE), PointsOffice.BAD);
    }

    private static void ruleReckonsAnew() {
        check.part("promise 7: all is reckoned anew");
        PointsOffice x = new PointsOffice();
        x.pass(40);
        x.convict(0, 10, 1, 0);
        x.convict(0, 30, 0, 0);
        check.due("ban(0, -1, 0)", x.ban(0, -1, 0), 0);
        check.due("rule(1, 9)", x.rule(1, 9), 12);
        check.due("ban(0, -1, 0)", x.ban(0, -1, 0), 1);
        check.due("rule(0, 20)", x.rule(0, 20), 60);
        check.due("ban(0, -1, 0)", x.ban(0, -1, 0), 0);
        check.due("rule(0, 21)", x.rule(0, 21), 20);
        check.due("ban(0, -1, 0)", x.ban(0, -1, 0), 1);
        check.due("rule(2, 33)", x.rule(2, 33), 10);
        check.due("ban(0, 0, 1)", x.ban(0, 0, 1), 33);
        check.due("event(0, 9)", x.event(0, 9), 1);
    }

    private static void code() {
        check.part("promise 8");
        PointsOffice x = new PointsOffice();
        int[][] bad = {{-1, 0}, {4, 0}, {5, 0}, {6, 0}, {0, -1}, {0, 2}, {Integer.MAX_VALUE, 0},
            {Integer.MIN_VALUE, 1}, {0, Integer.MAX_VALUE}};
        for (int[] args : bad) {
            check.due("code(" + args[0] + ", " + args[1] + ")", x.code(args[0], args[1]), PointsOffice.BAD);
        }
        x = Check.laid("k100;k200;k300;k400;k500;k698;");
        for (int k = 0; k < 6; k++) {
            check.due("code(" + k + ", 0)", x.code(k, 0), k + 1);
            check.due("code(" + k + ", 1)", x.code(k, 1), k == 5 ? 98 : 0);
        }
        check.due("code(6, 0)", x.code(6, 0), PointsOffice.BAD);
    }
}
