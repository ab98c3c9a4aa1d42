import java.util.ArrayList;
import java.util.Arrays;
import java.util.List;

/** The document told once more, day by day and window by window, to be compared with the class. */
final class SlowOffice {
    private static final int BAD = -1, NO = -2, FULL = -3, NONE = -4, ZERO = 100000;
    private static final int DAYS = 40000;

    static final class Event {
        int driver, day, kind, offence, code, points, special;
        boolean struck, twice, spent, idle;

        Event copy() {
            Event e = new Event();
            e.driver = driver;
            e.day = day;
            e.kind = kind;
            e.offence = offence;
            e.code = code;
            e.points = points;
            e.special = special;
            e.struck = struck;
            return e;
        }
    }

    static final class Ban {
        int driver, first, length, conviction, given;
        boolean great, shortened;

        boolean has(int day) {
            return day >= first && day < first + length;
        }

        int last() {
            return first + length - 1;
        }
    }

    private static final class State {
        int[] numbers;
        List<Event> events = new ArrayList<>();

        State copy() {
            State s = new State();
            s.numbers = numbers.clone();
            for (Event e : events) {
                s.events.add(e.copy());
            }
            return s;
        }
    }

    private String text = "";
    private State state;
    private List<int[]> codes;
    private final List<State> past = new ArrayList<>();
    private int today;
    private List<Ban> bans = new ArrayList<>();

    SlowOffice() {
        text = "w060;l12;b10;m150;s120090;k300;k600;k405;k920;";
        lay();
        text = "";
    }

    int write(int letter) {
        if (letter < 32 || letter > 126) return BAD;
        if (text.length() == 200) return FULL;
        text += (char) letter;
        return text.length();
    }

    int wipe() {
        int n = text.length();
        text = "";
        return n;
    }

    private static final String[] SHAPES = {"w999", "l99", "b99", "m999", "s999999", "k999"};

    /** {place, reason} of the fault, or null. */
    private int[] findFault() {
        int from = 0;
        int codesSoFar = 0;
        while (from < text.length()) {
            char c = text.charAt(from);
            int shape = "wlbmsk".indexOf(c);
            if (shape < 0 || c == 'k' && codesSoFar == 6) return new int[] {from, 3};
            int figures = SHAPES[shape].length() - 1;
            for (int i = 1; i <= figures; i++) {
                if (from + i >= text.length() || !Character.isDigit(text.charAt(from + i))) return new int[] {from, 1};
                boolean mayNotBeNought = "wlb".indexOf(c) >= 0 && i == figures || c == 'k' && i == 1;
                if (mayNotBeNought && Integer.parseInt(text.substring(from + 1, from + i + 1)) == 0) {
                    return new int[] {from, 2};
                }
            }
            if (from + figures + 1 >= text.length() || text.charAt(from + figures + 1) != ';') return new int[] {from, 1};
            if (c == 'k') codesSoFar++;
            from += figures + 2;
        }
        return null;
    }

    int fault() {
        int[] f = findFault();
        return f == null ? NONE : f[0];
    }

    int reason() {
        int[] f = findFault();
        return f == null ? NONE : f[1];
    }

    int lay() {
        if (findFault() != null || text.indexOf('k') < 0) return NO;
        int[] numbers = {100, 12, 10, 200, 300, 150};
        codes = new ArrayList<>();
        for (String item : text.split(";")) {
            int number = Integer.parseInt(item.substring(1));
            switch (item.charAt(0)) {
                case 'k': codes.add(new int[] {number / 100, number % 100}); break;
                case 's': numbers[4] = number / 1000; numbers[5] = number % 1000; break;
                default: numbers["wlbm".indexOf(item.charAt(0))] = number;
            }
        }
        state = new State();
        state.numbers = numbers;
        past.clear();
        today = 0;
        reckon();
        return codes.size();
    }

    private void remember() {
        past.add(state.copy());
        if (past.size() > 6) past.remove(0);
    }

    int rule(int what, int number) {
        int[][] ranges = {{1, 999}, {1, 99}, {1, 99}, {0, 999}, {0, 999}, {0, 999}};
        if (what < 0 || what > 5 || number < ranges[what][0] || number > ranges[what][1]) return BAD;
        int was = state.numbers[what];
        if (was == number) return NO;
        remember();
        state.numbers[what] = number;
        reckon();
        return was;
    }

    int code(int k, int what) {
        return k < 0 || k >= codes.size() || what < 0 || what > 1 ? BAD : codes.get(k)[what];
    }

    int pass(int days) {
        if (days < 0 || days > 9999) return BAD;
        if (today + days > 9999) return FULL;
        return today += days;
    }

    private Event conviction(int d, int offence, int k, int special) {
        Event e = new Event();
        e.driver = d;
        e.day = today;
        e.offence = offence;
        e.code = k;
        e.points = codes.get(k)[0];
        e.special = special;
        return e;
    }

    private boolean wrongOffence(int d, int offence, int k) {
        return d < 0 || d > 3 || offence < 0 || offence > today || k < 0 || k >= codes.size();
    }

    int convict(int d, int offence, int k, int special) {
        if (wrongOffence(d, offence, k) || special != 0 && special != 1) return BAD;
        if (state.events.size() == 40) return FULL;
        remember();
        state.events.add(conviction(d, offence, k, special));
        reckon();
        return state.events.size() - 1;
    }

    int course(int d, int kind) {
        if (d < 0 || d > 3 || kind != 0 && kind != 1) return BAD;
        if (state.events.size() == 40) return FULL;
        State before = state.copy();
        Event c = new Event();
        c.driver = d;
        c.day = today;
        c.kind = kind + 1;
        if (kind == 0) {
            for (Event e : state.events) {
                if (e.driver == d && e.kind == 1 && today - e.day < state.numbers[0]) return NO;
            }
        }
        state.events.add(c);
        reckon();
        if (c.idle) {
            state = before;
            reckon();
            return NO;
        }
        past.add(before);
        if (past.size() > 6) past.remove(0);
        return state.events.size() - 1;
    }

    private Event convictionAt(int e) {
        if (e < 0 || e >= state.events.size()) return null;
        Event found = state.events.get(e);
        return found.kind == 0 ? found : null;
    }

    private int bannedInAll(int d) {
        return days(d, 0, 99999);
    }

    int strike(int e) {
        Event c = convictionAt(e);
        if (c == null) return BAD;
        if (c.struck) return NO;
        int before = bannedInAll(c.driver);
        remember();
        c.struck = true;
        reckon();
        return bannedInAll(c.driver) - before + ZERO;
    }

    int lower(int e, int points) {
        Event c = convictionAt(e);
        if (c == null || points < 0 || points > 8) return BAD;
        if (c.struck || c.points <= points) return NO;
        int before = bannedInAll(c.driver);
        remember();
        c.points = points;
        reckon();
        return bannedInAll(c.driver) - before + ZERO;
    }

    int redate(int e, int offence) {
        Event c = convictionAt(e);
        if (c == null || offence < 0 || offence > c.day) return BAD;
        if (c.struck || c.offence == offence) return NO;
        int before = bannedInAll(c.driver);
        remember();
        c.offence = offence;
        reckon();
        return bannedInAll(c.driver) - before + ZERO;
    }

    int excuse(int e) {
        Event c = convictionAt(e);
        if (c == null) return BAD;
        if (c.struck) return NO;
        int before = bannedInAll(c.driver);
        remember();
        c.special = 1 - c.special;
        reckon();
        return bannedInAll(c.driver) - before + ZERO;
    }

    int undo() {
        if (past.isEmpty()) return NO;
        state = past.remove(past.size() - 1);
        reckon();
        return past.size();
    }

    int year(int z, int n) {
        if (z < 0 || z > 9999 || n < 1 || n > 20) return BAD;
        int came = 0;
        for (long k = 0; k < n; k++) {
            long x = 7919L * z + 6151 * k + 1;
            int draw = (int) (x * x % 65521);
            today = Math.min(9999, today + draw % 16);
            int offence = Math.max(0, today - draw / 256 % 32);
            if (convict(draw / 16 % 4, offence, draw / 64 % codes.size(), 0) >= 0) came++;
        }
        return came;
    }

    int event(int i, int what) {
        if (i < 0 || i >= state.events.size() || what < 0 || what > 10) return BAD;
        Event e = state.events.get(i);
        if (what >= 3 && what <= 8 && e.kind != 0 || what == 10 && e.kind != 2) return NONE;
        int[] told = {e.driver, e.day, e.kind, e.offence, e.code, e.points, e.special, e.struck ? 1 : 0,
            e.twice ? 1 : 0, e.spent ? 1 : 0, e.idle ? 1 : 0};
        return told[what];
    }

    private void reckon() {
        bans = new ArrayList<>();
        for (Event e : state.events) {
            e.twice = e.spent = e.idle = false;
        }
        for (int i = 0; i < state.events.size(); i++) {
            Event e = state.events.get(i);
            if (e.kind == 0 && !e.struck) reckonConviction(i, e);
            if (e.kind == 2) reckonLong(e);
        }
    }

    private void give(Event e, int i, int first, int length, boolean great) {
        Ban b = new Ban();
        b.driver = e.driver;
        b.first = first;
        b.length = length;
        b.conviction = i;
        b.given = e.day;
        b.great = great;
        bans.add(b);
    }

    private void reckonConviction(int i, Event e) {
        e.twice = banned(e.driver, e.offence) == 1;
        int own = codes.get(e.code)[1];
        if (own > 0) give(e, i, e.day, own, false);
        List<Event> soFar = state.events.subList(0, i + 1);
        if (heaviest(soFar, e.driver, e.offence) < state.numbers[1] || e.special == 1) return;
        int earlier = 0;
        int first = e.day;
        for (Ban b : bans) {
            if (b.driver != e.driver) continue;
            if (b.great && e.day - b.given <= state.numbers[3]) earlier++;
            if (b.last() >= e.day) first = Math.max(first, b.last() + 1);
        }
        int[] times = {1, 2, 4};
        give(e, i, first, state.numbers[2] * times[Math.min(earlier, 2)], true);
        for (Event other : soFar) {
            if (other.driver == e.driver) other.spent = true;
        }
    }

    private void reckonLong(Event c) {
        Ban best = null;
        for (Ban b : bans) {
            if (b.driver == c.driver && b.has(c.day) && !b.shortened && (best == null || b.last() >= best.last())) best = b;
        }
        c.idle = best == null;
        if (best == null) return;
        best.length -= best.length / 4;
        while (best.last() < c.day) best.length++;
        best.shortened = true;
    }

    private int heaviest(List<Event> soFar, int d, int day) {
        int w = state.numbers[0];
        // so many days ahead of day 0 can be in a window
        int[] byDay = new int[w + 10000 + w];
        for (Event e : soFar) {
            if (e.driver != d || e.spent || e.struck) continue;
            if (e.kind == 0) byDay[w + e.offence] += e.twice ? 2 * e.points : e.points;
            if (e.kind == 1) byDay[w + e.day] -= 3;
        }
        int total = 0;
        for (int i = day - w + 1; i <= day; i++) total += byDay[w + i];
        int most = total;
        for (int start = day - w + 2; start <= day; start++) {
            total += byDay[w + start + w - 1] - byDay[w + start - 1];
            most = Math.max(most, total);
        }
        return most;
    }

    int sum(int d, int day) {
        return d < 0 || d > 3 || day < 0 || day > 9999 ? BAD : Math.max(0, heaviest(state.events, d, day));
    }

    /** Tries every number of points with a code of its own, really convicting. */
    int need(int d) {
        if (d < 0 || d > 3) return BAD;
        State kept = state;
        int answer = NONE;
        codes.add(new int[] {1, 0});
        for (int points = 1; points <= 99 && answer == NONE; points++) {
            state = kept.copy();
            int before = bans.size();
            Event e = conviction(d, today, codes.size() - 1, 0);
            e.points = points;
            state.events.add(e);
            reckon();
            if (bans.size() > before) answer = points;
            state = kept;
            reckon();
        }
        codes.remove(codes.size() - 1);
        return answer;
    }

    int would(int d, int offence, int k) {
        if (wrongOffence(d, offence, k)) return BAD;
        State kept = state;
        int before = bannedInAll(d);
        state = kept.copy();
        state.events.add(conviction(d, offence, k, 0));
        reckon();
        int longer = bannedInAll(d) - before;
        state = kept;
        reckon();
        return longer;
    }

    int banned(int d, int day) {
        if (d < 0 || d > 3 || day < 0 || day > 99999) return BAD;
        for (Ban b : bans) {
            if (b.driver == d && b.has(day)) return 1;
        }
        return 0;
    }

    int days(int d, int from, int to) {
        if (d < 0 || d > 3 || from < 0 || from > 99999 || to < from || to > 99999) return BAD;
        boolean[] is = new boolean[DAYS];
        for (Ban b : bans) {
            if (b.driver == d) Arrays.fill(is, b.first, b.first + b.length, true);
        }
        int total = 0;
        for (int day = from; day <= to && day < DAYS; day++) {
            if (is[day]) total++;
        }
        return total;
    }

    int free(int d) {
        if (d < 0 || d > 3) return BAD;
        int day = today;
        while (banned(d, day) == 1) day++;
        return day;
    }

    int ban(int d, int i, int what) {
        if (d < 0 || d > 3 || i < -1 || what < 0 || what > 4) return BAD;
        List<Ban> his = new ArrayList<>();
        for (Ban b : bans) {
            if (b.driver == d) his.add(b);
        }
        if (i == -1) return his.size();
        if (i >= his.size()) return NONE;
        Ban b = his.get(i);
        return new int[] {b.first, b.length, b.conviction, b.great ? 1 : 0, b.shortened ? 1 : 0}[what];
    }

    int seen(int asker, int d, int what) {
        if (asker < 0 || asker > 3 || d < 0 || d > 3 || what < 0 || what > 2) return BAD;
        int[] told = {0, 0, NONE};
        for (int i = 0; i < state.events.size(); i++) {
            Event e = state.events.get(i);
            boolean sees = e.kind == 0 && e.driver == d;
            if (asker >= 1) sees &= !e.struck;
            if (asker == 2) sees &= today - e.day < state.numbers[4];
            if (asker == 3) sees &= !e.spent && today - e.offence < state.numbers[5];
            if (sees) {
                told[0]++;
                told[1] += e.points;
                told[2] = i;
            }
        }
        return told[what];
    }

    int count(int what) {
        if (what < 0 || what > 11) return BAD;
        int[] n = state.numbers;
        return new int[] {codes.size(), state.events.size(), today, past.size(), text.length(), n[0], n[1], n[2], n[3],
            n[4], n[5], bans.size()}[what];
    }
}
