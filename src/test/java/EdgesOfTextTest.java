/** The boundaries that the document names of THE TEXT, of what is LAID, and of rules and codes (promises 1 to 8). */
public final class EdgesOfTextTest {
    private static final int BAD = PointsOffice.BAD, NO = PointsOffice.NO;
    private static final int FULL = PointsOffice.FULL, NONE = PointsOffice.NONE;
    private static final int MIN = Integer.MIN_VALUE, MAX = Integer.MAX_VALUE;
    private static final int UNFINISHED = 1, NOT_AS_TOLD = 2, NO_ITEM = 3;
    private static final String SIX_CODES = "k100;k200;k300;k400;k500;k600;";
    private static final Check check = new Check();

    public static void main(String[] args) {
        lettersOf32To126();
        letters200AtMost();
        badGoesAheadOfFull();
        wipedEmptyAndFull();
        numbersOfEachItem();
        numbersJustBelow();
        withoutAnItem();
        toldAgainTheLastOne();
        everyFirstLetter();
        noFigureWhereOneShould();
        noEndBehindTheNumbers();
        whereTheTextEnds();
        allItsFiguresRead();
        sixCodes();
        placeOfTheFault();
        faultsOfAFullText();
        emptyTextHasNoFault();
        laidWithACode();
        laidAtFirst();
        laidEndsAllThatWas();
        ruleNumbers();
        ruleWhat();
        ruleThatIsSo();
        codesSuchAsThereAre();
        check.finish();
    }

    private static String times(String item, int many) {
        return item.repeat(many);
    }

    private static void due(String text, int place, int reason) {
        PointsOffice x = new PointsOffice();
        Check.writeAll(x, text);
        check.due("count(4) of " + text, x.count(4), text.length());
        check.due("fault() of " + text, x.fault(), place);
        check.due("reason() of " + text, x.reason(), reason);
        PointsOffice reasonFirst = new PointsOffice();
        Check.writeAll(reasonFirst, text);
        check.due("reason() ahead of fault() of " + text, reasonFirst.reason(), reason);
        if (place != NONE) {
            check.due("lay() of " + text, x.lay(), NO);
        }
    }

    /** Alone, behind a right item, and behind five codes. */
    private static void dueEverywhere(String item, int reason) {
        due(item, 0, reason);
        due("m000;" + item, 5, reason);
        due(SIX_CODES.substring(5) + item, 25, reason);
    }

    private static void right(String text) {
        due(text, NONE, NONE);
    }

    private static void lettersOf32To126() {
        check.part("a letter (32 to 126)");
        check.due("write(32)", new PointsOffice().write(32), 1);
        check.due("write(126)", new PointsOffice().write(126), 1);
        Stand stand = new Stand(check, x -> Check.writeAll(x, "k100;w01"));
        int[] bad = {31, 127, 0, -1, 128, 10, 32 + 256, 126 + 65536, MIN, MAX};
        for (int letter : bad) {
            check.due("write of a new one", new PointsOffice().write(letter), BAD);
            stand.refuses("write(" + letter + ")", BAD, x -> x.write(letter));
        }
        check.due("write('0') behind eight", stand.office().write('0'), 9);
    }

    private static void letters200AtMost() {
        check.part("letters (200 at most)");
        Stand stand = new Stand(check, x -> Check.writeAll(x, "k300;" + times("w010;", 38) + "w01"));
        PointsOffice x = stand.office();
        check.due("count(4)", x.count(4), 198);
        check.due("the 199th", x.write('1'), 199);
        check.due("the 200th", x.write(';'), 200);
        check.due("lay()", x.lay(), 1);
        check.due("count(5)", x.count(5), 11);
        Stand full = new Stand(check, y -> Check.writeAll(y, "k300;" + times("w010;", 39)));
        full.refuses("the 201st", FULL, y -> y.write(';'));
        full.refuses("the 201st", FULL, y -> y.write('w'));
        full.refuses("the 201st", FULL, y -> y.write(32));
        full.refuses("the 201st", FULL, y -> y.write(126));
    }

    private static void badGoesAheadOfFull() {
        check.part("of several the first: BAD ahead of FULL");
        Stand full = new Stand(check, y -> Check.writeAll(y, "k300;" + times("w010;", 39)));
        full.refuses("write(31)", BAD, y -> y.write(31));
        full.refuses("write(127)", BAD, y -> y.write(127));
    }

    private static void wipedEmptyAndFull() {
        check.part("THE TEXT is empty: how long it was");
        PointsOffice x = new PointsOffice();
        check.due("wipe() of none", x.wipe(), 0);
        Check.writeAll(x, times("w010;", 40));
        check.due("wipe() of 200", x.wipe(), 200);
        check.due("wipe() again", x.wipe(), 0);
        check.due("write(32)", x.write(32), 1);
        check.due("wipe() of one", x.wipe(), 1);
        Check.writeAll(x, times("b10;", 50));
        check.due("count(4), 200 have room again", x.count(4), 200);
        Stand empty = new Stand(check, y -> y.pass(3));
        empty.changesNothing("wipe() of none", y -> y.wipe());
    }

    private static void laidNumber(String item, int what, int number) {
        PointsOffice x = new PointsOffice();
        Check.writeAll(x, "k100;" + item);
        check.due("fault() of " + item, x.fault(), NONE);
        check.due("lay() of " + item, x.lay(), 1);
        check.due("count(" + what + ") of " + item, x.count(what), number);
    }

    private static void numbersOfEachItem() {
        check.part("the numbers that each ITEM may have");
        laidNumber("w001;", 5, 1);
        laidNumber("w999;", 5, 999);
        laidNumber("l01;", 6, 1);
        laidNumber("l99;", 6, 99);
        laidNumber("b01;", 7, 1);
        laidNumber("b99;", 7, 99);
        laidNumber("m000;", 8, 0);
        laidNumber("m999;", 8, 999);
        laidNumber("s000999;", 9, 0);
        laidNumber("s000999;", 10, 999);
        laidNumber("s999000;", 9, 999);
        laidNumber("s999000;", 10, 0);
        int[][] codes = {{1, 0}, {9, 0}, {1, 99}, {9, 99}, {1, 1}};
        for (int[] told : codes) {
            PointsOffice x = Check.laid("k" + (told[0] * 100 + told[1]) + ";");
            check.due("code(0, 0)", x.code(0, 0), told[0]);
            check.due("code(0, 1)", x.code(0, 1), told[1]);
        }
    }

    private static void numbersJustBelow() {
        check.part("the first number that an ITEM may not have");
        dueEverywhere("w000;", NOT_AS_TOLD);
        dueEverywhere("l00;", NOT_AS_TOLD);
        dueEverywhere("b00;", NOT_AS_TOLD);
        dueEverywhere("k000;", NOT_AS_TOLD);
        dueEverywhere("k099;", NOT_AS_TOLD);
        // there is no figure too many: it stands where the ; should
        String[] tooLong = {"w1000;", "w0010;", "l100;", "b100;", "m1000;", "s9999999;", "k1000;", "k9999;"};
        for (String item : tooLong) {
            dueEverywhere(item, UNFINISHED);
        }
    }

    private static void withoutAnItem() {
        check.part("100, 12, 10, 200, 300, 150 without");
        int[] without = {100, 12, 10, 200, 300, 150};
        String[] items = {"w007;", "l07;", "b07;", "m007;", "s007007;"};
        for (int told = -1; told < items.length; told++) {
            // what was laid and told anew ahead of it leaves no trace
            PointsOffice x = Check.laid("w050;l50;b50;m050;s050050;k500;");
            x.rule(0, 51);
            x.wipe();
            Check.writeAll(x, told < 0 ? "k100;" : "k100;" + items[told]);
            check.due("lay()", x.lay(), 1);
            for (int what = 0; what < without.length; what++) {
                boolean isTold = what == told || what == 5 && told == 4;
                check.due("count(" + (5 + what) + ")", x.count(5 + what), isTold ? 7 : without[what]);
            }
        }
    }

    private static void toldAgainTheLastOne() {
        check.part("of w, l, b, m, s told again the last one");
        PointsOffice up = Check.laid("w001;l01;b01;m000;s000000;k100;w999;l99;b99;m999;s999998;");
        PointsOffice down = Check.laid("w999;l99;b99;m999;s999998;w500;k100;w001;l01;b01;m000;s000000;");
        int[] most = {999, 99, 99, 999, 999, 998};
        int[] least = {1, 1, 1, 0, 0, 0};
        for (int what = 0; what < 6; what++) {
            check.due("count(" + (5 + what) + ")", up.count(5 + what), most[what]);
            check.due("count(" + (5 + what) + ")", down.count(5 + what), least[what]);
        }
        check.due("codes told again are more codes", Check.laid("k100;k100;").count(0), 2);
    }

    private static void everyFirstLetter() {
        check.part("that letter begins no ITEM");
        for (int letter = 32; letter <= 126; letter++) {
            boolean begins = "wlbmsk".indexOf(letter) >= 0;
            dueEverywhere(String.valueOf((char) letter), begins ? UNFINISHED : NO_ITEM);
            if (!begins) {
                dueEverywhere((char) letter + "100;", NO_ITEM);
            }
        }
    }

    private static void noFigureWhereOneShould() {
        check.part("no figure stands where one should");
        String[] items = {"w111;", "l11;", "b11;", "m111;", "s111111;", "k111;"};
        String none = "/:;, a~-+w";
        for (String item : items) {
            for (int at = 1; at < item.length() - 1; at++) {
                for (int i = 0; i < none.length(); i++) {
                    due(item.substring(0, at) + none.charAt(i) + item.substring(at + 1), 0, UNFINISHED);
                }
                right(item.substring(0, at) + "9" + item.substring(at + 1));
                // one figure too few
                dueEverywhere(item.substring(0, at) + item.substring(at + 1), UNFINISHED);
            }
        }
    }

    private static void noEndBehindTheNumbers() {
        check.part("no ; behind the numbers");
        String[] items = {"w111", "l11", "b11", "m111", "s111111", "k111"};
        String none = ":<, 0k~";
        for (String item : items) {
            for (int i = 0; i < none.length(); i++) {
                due(item + none.charAt(i), 0, UNFINISHED);
                due("l12;" + item + none.charAt(i) + "w010;", 4, UNFINISHED);
            }
            right(item + ";");
        }
    }

    private static void whereTheTextEnds() {
        check.part("also where THE TEXT ends");
        String[] items = {"w111;", "l11;", "b11;", "m111;", "s111111;", "k111;", "m000;", "s000000;"};
        for (String item : items) {
            for (int length = 1; length < item.length(); length++) {
                dueEverywhere(item.substring(0, length), UNFINISHED);
            }
            right(item);
        }
    }

    private static void allItsFiguresRead() {
        check.part("a number, all its figures read, is not as told");
        String[] oneShort = {"w00", "w0", "l0", "b0", "k", "w00;", "l0;", "b0;", "w00x;", "l0x;", "b0x;", "k;",
            "kx00;"};
        for (String item : oneShort) {
            dueEverywhere(item, UNFINISHED);
        }
        String[] allRead = {"w000", "l00", "b00", "k0", "w000x", "l000;", "b00b", "k0;", "k0x", "k00", "k00;",
            "k0000;", "w0001;"};
        for (String item : allRead) {
            dueEverywhere(item, NOT_AS_TOLD);
        }
        // the POINTS of a code are right: what is met next is its own BAN
        dueEverywhere("k1", UNFINISHED);
        dueEverywhere("k1x", UNFINISHED);
        dueEverywhere("k10", UNFINISHED);
    }

    private static void sixCodes() {
        check.part("a CODE more (6 at most)");
        right(SIX_CODES.substring(5));
        right(SIX_CODES);
        check.due("lay() of six", Check.laid(SIX_CODES).count(0), 6);
        due(SIX_CODES.substring(5) + "k", 25, UNFINISHED);
        String[] seventh = {"k100;", "k", "k0", "k000;", "kx", "k;"};
        for (String item : seventh) {
            due(SIX_CODES + item, 30, NO_ITEM);
            due(SIX_CODES + "w010;l12;" + item, 39, NO_ITEM);
        }
        Stand stand = new Stand(check, x -> Check.writeAll(x, SIX_CODES + "k700;"));
        stand.refuses("lay() of seven", NO, x -> x.lay());
        right(SIX_CODES + "w010;l12;b10;m200;s300150;");
        due(SIX_CODES + "w000;", 30, NOT_AS_TOLD);
        due(SIX_CODES + "w01", 30, UNFINISHED);
    }

    private static void placeOfTheFault() {
        check.part("the place of the first letter of the first ITEM that is not so");
        String[] items = {"w010;", "l12;", "b10;", "m200;", "s300150;", "k100;"};
        String text = "";
        for (String item : items) {
            due(text + "l0;", text.length(), UNFINISHED);
            due(text + "l00;", text.length(), NOT_AS_TOLD);
            due(text + "L12;", text.length(), NO_ITEM);
            text += item;
        }
        right(text);
        due("w000;q", 0, NOT_AS_TOLD);
        due("q;w000;", 0, NO_ITEM);
        due("w01;w000;q", 0, UNFINISHED);
        due("w010;b1;l00;q", 5, UNFINISHED);
        due("w010;;l12;", 5, NO_ITEM);
        due("w010; l12;", 5, NO_ITEM);
    }

    private static void faultsOfAFullText() {
        check.part("a TEXT of 200 letters");
        right(times("b10;", 50));
        right("k100;" + times("w010;", 39));
        due(times("b10;", 49) + "w010", 196, UNFINISHED);
        due(times("b10;", 49) + "w000", 196, NOT_AS_TOLD);
        due(times("b10;", 49) + "k00;", 196, NOT_AS_TOLD);
        String all199 = times("w010;", 39) + "b10;";
        due(all199 + "k", 199, UNFINISHED);
        due(all199 + ";", 199, NO_ITEM);
        due(SIX_CODES + times("w010;", 33) + "b10;k", 199, NO_ITEM);
        Stand cut = new Stand(check, x -> Check.writeAll(x, "k100;" + times("w010;", 38) + "w0100"));
        check.due("fault()", cut.office().fault(), 195);
        cut.refuses("write(';')", FULL, x -> x.write(';'));
        cut.refuses("lay()", NO, x -> x.lay());
    }

    private static void emptyTextHasNoFault() {
        check.part("NONE: there is no FAULT");
        right("");
        PointsOffice x = new PointsOffice();
        Check.writeAll(x, "q");
        check.due("fault()", x.fault(), 0);
        check.due("reason()", x.reason(), NO_ITEM);
        x.wipe();
        check.due("fault()", x.fault(), NONE);
        check.due("reason()", x.reason(), NONE);
        Stand stand = new Stand(check, y -> Check.writeAll(y, "k100;w"));
        stand.changesNothing("fault()", y -> y.fault());
        stand.changesNothing("reason()", y -> y.reason());
    }

    private static void laidWithACode() {
        check.part("LAID is a TEXT without FAULT, with a CODE (NO else)");
        String[] notLaid = {"", "w010;", "w010;l12;b10;m200;s300150;", "k", "k100", "k100;q", "k000;", "q;k100;",
            "k100;k000;"};
        for (String text : notLaid) {
            Stand stand = new Stand(check, x -> {
                x.pass(30);
                x.convict(1, 20, 3, 0);
                x.rule(1, 13);
                x.course(1, 1);
                Check.writeAll(x, text);
            });
            stand.refuses("lay() of " + text, NO, x -> x.lay());
        }
        check.due("lay() of one code", Check.laid("k100;").count(0), 1);
        check.due("a code behind all", Check.laid("w010;l12;b10;m200;s300150;k100;").count(0), 1);
    }

    private static void laidAtFirst() {
        check.part("at first w060;l12;b10;m150;s120090;k300;k600;k405;k920;");
        PointsOffice x = new PointsOffice();
        PointsOffice y = Check.laid("w060;l12;b10;m150;s120090;k300;k600;k405;k920;");
        int[] first = {4, 0, 0, 0, 0, 60, 12, 10, 150, 120, 90, 0};
        for (int what = 0; what < 12; what++) {
            check.due("count(" + what + ")", x.count(what), first[what]);
            check.due("count(" + what + ") of the same text", y.count(what), what == 4 ? 46 : first[what]);
        }
        for (int k = 0; k <= 6; k++) {
            check.due("code(" + k + ", 0)", x.code(k, 0), y.code(k, 0));
            check.due("code(" + k + ", 1)", x.code(k, 1), y.code(k, 1));
        }
        check.due("lay() of no text", x.lay(), NO);
    }

    private static void laidEndsAllThatWas() {
        check.part("no EVENTS, TODAY is DAY 0 (LAID none)");
        PointsOffice x = new PointsOffice();
        x.pass(9999);
        for (int e = 0; e < 40; e++) {
            x.convict(e % 4, 9999, 3, 0);
        }
        Check.writeAll(x, "k105;l99;");
        check.due("lay()", x.lay(), 1);
        int[] counts = {1, 0, 0, 0, 9, 100, 99, 10, 200, 300, 150, 0};
        for (int what = 0; what < 12; what++) {
            check.due("count(" + what + ")", x.count(what), counts[what]);
        }
        for (int d = 0; d < 4; d++) {
            check.due("ban", x.ban(d, -1, 0), 0);
            check.due("days", x.days(d, 0, 99999), 0);
            check.due("seen", x.seen(0, d, 0), 0);
            check.due("sum", x.sum(d, 9999), 0);
        }
        check.due("event(0, 0)", x.event(0, 0), BAD);
        check.due("undo()", x.undo(), NO);
        check.due("convict on day 1", x.convict(0, 1, 0, 0), BAD);
        check.due("convict on day 0", x.convict(0, 0, 0, 0), 0);
        check.due("pass(9999)", x.pass(9999), 9999);
        check.due("undo()", x.undo(), 0);
        check.due("undo(), not ahead of lay()", x.undo(), NO);
    }

    private static void ruleNumbers() {
        check.part("a rule is told anew, as in a TEXT");
        int[] least = {1, 1, 1, 0, 0, 0};
        int[] most = {999, 99, 99, 999, 999, 999};
        int[] first = {60, 12, 10, 150, 120, 90};
        Stand stand = new Stand(check, x -> {
            x.pass(40);
            x.convict(0, 40, 3, 0);
            x.convict(0, 40, 0, 0);
        });
        for (int i = 0; i < 6; i++) {
            int what = i;
            PointsOffice x = stand.office();
            check.due("rule(" + what + ", least)", x.rule(what, least[what]), first[what]);
            check.due("count", x.count(5 + what), least[what]);
            check.due("rule(" + what + ", most)", x.rule(what, most[what]), least[what]);
            check.due("count", x.count(5 + what), most[what]);
            int[] bad = {least[what] - 1, most[what] + 1, MIN, MAX};
            for (int number : bad) {
                stand.refuses("rule(" + what + ", " + number + ")", BAD, y -> y.rule(what, number));
            }
        }
    }

    private static void ruleWhat() {
        check.part("W (what = 0) to S2 (5)");
        Stand stand = new Stand(check, x -> x.pass(1));
        int[] none = {-1, 6, 7, MIN, MAX};
        for (int what : none) {
            stand.refuses("rule(" + what + ", 12)", BAD, x -> x.rule(what, 12));
        }
    }

    private static void ruleThatIsSo() {
        check.part("NO: it is so");
        int[] first = {60, 12, 10, 150, 120, 90};
        Stand stand = new Stand(check, x -> x.convict(0, 0, 3, 0));
        for (int i = 0; i < 6; i++) {
            int what = i;
            stand.refuses("rule(" + what + ", " + first[what] + ")", NO, x -> x.rule(what, first[what]));
            check.due("one less", stand.office().rule(what, first[what] - 1), first[what]);
            check.due("one more", stand.office().rule(what, first[what] + 1), first[what]);
            PointsOffice x = stand.office();
            x.rule(what, 30);
            check.due("so since", x.rule(what, 30), NO);
            check.due("as it was at first", x.rule(what, first[what]), 30);
        }
    }

    private static void codesSuchAsThereAre() {
        check.part("POINTS (what = 0), own BAN (1) of a CODE");
        for (int codes = 1; codes <= 6; codes++) {
            PointsOffice x = Check.laid(SIX_CODES.substring(0, 5 * codes));
            check.due("the first", x.code(0, 0), 1);
            check.due("the last", x.code(codes - 1, 0), codes);
            check.due("one behind the last", x.code(codes, 0), BAD);
            check.due("one behind the last", x.code(codes, 1), BAD);
        }
        Stand stand = new Stand(check, x -> x.pass(1));
        int[][] bad = {{-1, 0}, {4, 0}, {-1, 1}, {4, 1}, {0, -1}, {0, 2}, {3, -1}, {3, 2}, {MIN, 0}, {MAX, 0},
            {0, MIN}, {0, MAX}};
        for (int[] a : bad) {
            stand.refuses("code(" + a[0] + ", " + a[1] + ")", BAD, x -> x.code(a[0], a[1]));
        }
        // fewer codes than were laid ahead of it
        PointsOffice x = Check.laid(SIX_CODES);
        x.wipe();
        Check.writeAll(x, "k712;");
        x.lay();
        check.due("code(0, 1)", x.code(0, 1), 12);
        check.due("code(1, 0)", x.code(1, 0), BAD);
        check.due("convict by it", x.convict(0, 0, 1, 0), BAD);
    }
}
