import java.util.Random;

/** Many runs of drawn calls (the seeds are fixed): the class answers as the slow telling of the document does. */
public final class SlowOfficeTest {
    private static final int RUNS = 200;
    private static final int CALLS = 300;
    private static final Check check = new Check();

    private final Random random;
    private final PointsOffice office = new PointsOffice();
    private final SlowOffice slow = new SlowOffice();

    private SlowOfficeTest(long seed) {
        random = new Random(seed);
    }

    public static void main(String[] args) {
        for (int run = 0; run < RUNS; run++) {
            check.part("run " + run);
            new SlowOfficeTest(run).play(run % 4);
        }
        check.finish();
    }

    private void play(int style) {
        if (style == 1) {
            layText(random.nextInt(5) == 0 ? "w%03d;l%02d;b%02d;m%03d;k110;k340;k999;k500;k107;k200;" : "l%2$02d;w%1$03d;k300;k405;");
        }
        if (style == 2) {
            rule(0, 1 + random.nextInt(90));
            rule(1, 3 + random.nextInt(12));
        }
        for (int call = 0; call < CALLS; call++) {
            step(style == 3);
        }
        compareAll();
    }

    private void layText(String form) {
        String text = String.format(form, 1 + random.nextInt(200), 1 + random.nextInt(20), 1 + random.nextInt(99), random.nextInt(100));
        for (char c : text.toCharArray()) {
            check.due("write", office.write(c), slow.write(c));
        }
        check.due("lay", office.lay(), slow.lay());
    }

    private void rule(int what, int number) {
        check.due("rule(" + what + ", " + number + ")", office.rule(what, number), slow.rule(what, number));
    }

    /** Mostly a number that is told, seldom one beside. */
    private int near(int bound) {
        int p = random.nextInt(60);
        if (p == 0) return -1;
        if (p == 1) return bound;
        return bound <= 0 ? 0 : random.nextInt(bound);
    }

    private int anOffence() {
        int today = slow.count(2);
        return random.nextInt(3) == 0 ? near(today + 1) : Math.max(0, today - random.nextInt(40)) + (random.nextInt(50) == 0 ? 41 : 0);
    }

    private int anEvent() {
        return near(slow.count(1));
    }

    private void step(boolean fewDrivers) {
        int d = fewDrivers && random.nextInt(5) != 0 ? 1 : near(4);
        int k = near(slow.count(0));
        int e = anEvent();
        int n;
        int o = anOffence();
        switch (random.nextInt(34)) {
            case 0: case 1: case 2: case 3: case 4: case 5:
                n = random.nextInt(4) == 0 ? 1 : 0;
                check.due("convict(" + d + ", " + o + ", " + k + ", " + n + ")", office.convict(d, o, k, n), slow.convict(d, o, k, n));
                break;
            case 6: case 7:
                check.due("course(" + d + ", 0)", office.course(d, 0), slow.course(d, 0));
                break;
            case 8: case 9:
                check.due("course(" + d + ", 1)", office.course(d, 1), slow.course(d, 1));
                break;
            case 10: case 11: case 12:
                n = random.nextInt(20) == 0 ? random.nextInt(300) : random.nextInt(9);
                check.due("pass(" + n + ")", office.pass(n), slow.pass(n));
                break;
            case 13:
                check.due("strike(" + e + ")", office.strike(e), slow.strike(e));
                break;
            case 14:
                n = near(9);
                check.due("lower(" + e + ", " + n + ")", office.lower(e, n), slow.lower(e, n));
                break;
            case 15: case 16:
                check.due("redate(" + e + ", " + o + ")", office.redate(e, o), slow.redate(e, o));
                break;
            case 17:
                check.due("excuse(" + e + ")", office.excuse(e), slow.excuse(e));
                break;
            case 18: case 19: case 20: case 21:
                check.due("undo()", office.undo(), slow.undo());
                break;
            default:
                seldomStep(d, o, k);
        }
    }

    private void seldomStep(int d, int o, int k) {
        int what = near(6);
        switch (random.nextInt(16)) {
            case 0:
                rule(what, random.nextInt(what == 0 ? 120 : 30));
                break;
            case 1:
                int z = near(10000);
                int n = 1 + random.nextInt(3);
                check.due("year(" + z + ", " + n + ")", office.year(z, n), slow.year(z, n));
                break;
            case 2: case 3:
                check.due("need(" + d + ")", office.need(d), slow.need(d));
                break;
            case 4: case 5: case 6:
                check.due("would(" + d + ", " + o + ", " + k + ")", office.would(d, o, k), slow.would(d, o, k));
                break;
            case 7:
                compareAll();
                break;
            case 8:
                writeSome();
                break;
            default:
                int day = Math.max(0, slow.count(2) + random.nextInt(80) - 60);
                check.due("sum(" + d + ", " + day + ")", office.sum(d, day), slow.sum(d, day));
                check.due("banned(" + d + ", " + day + ")", office.banned(d, day), slow.banned(d, day));
                check.due("free(" + d + ")", office.free(d), slow.free(d));
                int to = day + near(50);
                check.due("days(" + d + ", " + day + ", " + to + ")", office.days(d, day, to), slow.days(d, day, to));
        }
    }

    private void writeSome() {
        String[] parts = {"w010;", "l05;", "b07;", "m050;", "s030020;", "k300;", "k405;", "k", "0", "w", ";", "1", "q"};
        if (random.nextInt(3) == 0) {
            check.due("wipe()", office.wipe(), slow.wipe());
        }
        for (int i = random.nextInt(9); i >= 0; i--) {
            for (char c : parts[random.nextInt(random.nextInt(6) == 0 ? parts.length : 7)].toCharArray()) {
                check.due("write(" + c + ")", office.write(c), slow.write(c));
            }
        }
        check.due("fault()", office.fault(), slow.fault());
        check.due("reason()", office.reason(), slow.reason());
        if (random.nextInt(4) == 0) {
            check.due("lay()", office.lay(), slow.lay());
        }
    }

    private void compareAll() {
        for (int what = -1; what <= 12; what++) {
            check.due("count(" + what + ")", office.count(what), slow.count(what));
        }
        for (int e = -1; e <= slow.count(1); e++) {
            for (int what = -1; what <= 11; what++) {
                check.due("event(" + e + ", " + what + ")", office.event(e, what), slow.event(e, what));
            }
        }
        for (int k = -1; k <= 6; k++) {
            check.due("code(" + k + ", 0)", office.code(k, 0), slow.code(k, 0));
            check.due("code(" + k + ", 1)", office.code(k, 1), slow.code(k, 1));
        }
        for (int d = -1; d <= 4; d++) {
            compareDriver(d);
        }
    }

    private void compareDriver(int d) {
        int many = Math.max(0, slow.ban(d, -1, 0));
        for (int i = -2; i <= many; i++) {
            for (int what = -1; what <= 5; what++) {
                check.due("ban(" + d + ", " + i + ", " + what + ")", office.ban(d, i, what), slow.ban(d, i, what));
            }
        }
        for (int asker = -1; asker <= 4; asker++) {
            for (int what = -1; what <= 3; what++) {
                check.due("seen(" + asker + ", " + d + ", " + what + ")", office.seen(asker, d, what), slow.seen(asker, d, what));
            }
        }
        check.due("days(" + d + ", 0, 99999)", office.days(d, 0, 99999), slow.days(d, 0, 99999));
    }
}
