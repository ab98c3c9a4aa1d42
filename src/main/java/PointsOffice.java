/** An office of drivers' points; ../shared/DOC.md tells what each call must answer. */
public final class PointsOffice {
    public static final int BAD = -1, NO = -2, FULL = -3, NONE = -4, ZERO = 100000;

    private static final int DRIVERS = 4;
    private static final int LATEST_TODAY = 9999;
    /** No ban can reach this day: TODAY is 9999 at most, and 41 convictions give fewer than 21000 days. */
    private static final int LATEST_DAY = 99999;
    private static final int LETTERS = 200;
    private static final int CODES = 6;
    private static final int EVENTS = 40;
    private static final int CHANGES = 6;

    private static final int RULES = 6;
    private static final int WINDOW = 0, LIMIT = 1, BAN = 2, MEMORY = 3, STAY = 4, OFFENCE_STAY = 5;

    private static final int CONVICTION = 0, LIGHT = 1, LONG = 2;
    private static final int COURSE_WORTH = 3;

    private static final int CAME = 0, STRUCK = 1, LOWERED = 2, REDATED = 3, EXCUSED = 4, RULED = 5;

    private static final String FIRST_TEXT = "w060;l12;b10;m150;s120090;k300;k600;k405;k920;";

    private final RuleText text;
    private final Rules rules;
    private final Rules draft;
    private final Events events;
    private final Bans bans;
    private final Reckoner reckoner;
    private final Changes changes;
    private int today;

    public PointsOffice() {
        text = new RuleText();
        rules = new Rules();
        draft = new Rules();
        events = new Events();
        bans = new Bans();
        reckoner = new Reckoner(rules, events, bans);
        changes = new Changes();
        for (int i = 0; i < FIRST_TEXT.length(); i++) {
            text.add(FIRST_TEXT.charAt(i));
        }
        text.readInto(rules);
        text.clear();
    }

    // ---- rules

    public int write(int letter) {
        if (letter < 32 || letter > 126) {
            return BAD;
        }
        return text.add(letter) ? text.length : FULL;
    }

    public int wipe() {
        int length = text.length;
        text.clear();
        return length;
    }

    public int fault() {
        text.readInto(draft);
        return text.why == 0 ? NONE : text.place;
    }

    public int reason() {
        text.readInto(draft);
        return text.why == 0 ? NONE : text.why;
    }

    public int lay() {
        text.readInto(draft);
        if (text.why != 0 || draft.codes == 0) {
            return NO;
        }
        rules.copy(draft);
        events.size = 0;
        changes.size = 0;
        today = 0;
        reckoner.reckonAll();
        return rules.codes;
    }

    public int rule(int what, int number) {
        if (!rules.allows(what, number)) {
            return BAD;
        }
        int was = rules.get(what);
        if (was == number) {
            return NO;
        }
        rules.put(what, number);
        changes.note(RULED, what, was);
        reckoner.reckonAll();
        return was;
    }

    public int code(int k, int what) {
        if (!rules.hasCode(k) || what < 0 || what > 1) {
            return BAD;
        }
        return what == 0 ? rules.pointsOf(k) : rules.ownBanOf(k);
    }

    // ---- events

    public int pass(int days) {
        if (days < 0 || days > LATEST_TODAY) {
            return BAD;
        }
        if (today + days > LATEST_TODAY) {
            return FULL;
        }
        today += days;
        return today;
    }

    public int convict(int d, int offence, int k, int special) {
        if (!canBeOffence(d, offence, k) || special < 0 || special > 1) {
            return BAD;
        }
        if (events.size >= EVENTS) {
            return FULL;
        }
        events.addConviction(d, today, offence, k, rules.pointsOf(k), special);
        return noteNewEvent();
    }

    public int course(int d, int kind) {
        if (!isDriver(d) || kind < 0 || kind > 1) {
            return BAD;
        }
        if (events.size >= EVENTS) {
            return FULL;
        }
        boolean refused = kind == 0
                ? events.hasLightAfter(d, today - rules.get(WINDOW))
                : bans.toShorten(d, today) < 0;
        if (refused) {
            return NO;
        }
        events.addCourse(d, today, kind == 0 ? LIGHT : LONG);
        return noteNewEvent();
    }

    public int strike(int e) {
        if (!events.isConviction(e)) {
            return BAD;
        }
        if (events.struck[e] == 1) {
            return NO;
        }
        return retell(STRUCK, e, 1);
    }

    public int lower(int e, int points) {
        if (!events.isConviction(e) || points < 0 || points > 8) {
            return BAD;
        }
        if (events.struck[e] == 1 || events.points[e] <= points) {
            return NO;
        }
        return retell(LOWERED, e, points);
    }

    public int redate(int e, int offence) {
        if (!events.isConviction(e) || offence < 0 || offence > events.day[e]) {
            return BAD;
        }
        if (events.struck[e] == 1 || events.offence[e] == offence) {
            return NO;
        }
        return retell(REDATED, e, offence);
    }

    public int excuse(int e) {
        if (!events.isConviction(e)) {
            return BAD;
        }
        if (events.struck[e] == 1) {
            return NO;
        }
        return retell(EXCUSED, e, 1 - events.special[e]);
    }

    public int undo() {
        if (!changes.dropLast()) {
            return NO;
        }
        int kind = changes.droppedKind;
        if (kind == CAME) {
            events.dropLast();
        } else if (kind == RULED) {
            rules.put(changes.droppedWhere, changes.droppedWas);
        } else {
            events.tell(kind, changes.droppedWhere, changes.droppedWas);
        }
        reckoner.reckonAll();
        return changes.size;
    }

    public int year(int z, int n) {
        if (z < 0 || z > 9999 || n < 1 || n > 20) {
            return BAD;
        }
        int before = events.size;
        for (int k = 0; k < n; k++) {
            long x = 7919L * z + 6151L * k + 1;
            liveThrough((int) (x * x % 65521));
        }
        return events.size - before;
    }

    public int event(int e, int what) {
        if (!events.isThere(e) || what < 0 || what > 10) {
            return BAD;
        }
        return events.tellOf(e, what);
    }

    // ---- sums, bans

    public int sum(int d, int day) {
        if (!isDriver(d) || day < 0 || day > LATEST_TODAY) {
            return BAD;
        }
        return Math.max(0, reckoner.heaviest(d, day));
    }

    public int need(int d) {
        if (!isDriver(d)) {
            return BAD;
        }
        int times = bans.hold(d, today) ? 2 : 1;
        // the heaviest window may weigh less than 0 by courses, and then more points are needed
        int missing = rules.get(LIMIT) - reckoner.heaviest(d, today);
        for (int points = 1; points <= 99; points++) {
            if (points * times >= missing) {
                return points;
            }
        }
        return NONE;
    }

    public int would(int d, int offence, int k) {
        if (!canBeOffence(d, offence, k)) {
            return BAD;
        }
        int before = daysInAll(d);
        events.addConviction(d, today, offence, k, rules.pointsOf(k), 0);
        reckoner.reckonNext();
        int after = daysInAll(d);
        events.dropLast();
        reckoner.reckonAll();
        return after - before;
    }

    public int banned(int d, int day) {
        if (!isDriver(d) || day < 0 || day > LATEST_DAY) {
            return BAD;
        }
        return bans.hold(d, day) ? 1 : 0;
    }

    public int days(int d, int from, int to) {
        if (!isDriver(d) || from < 0 || to > LATEST_DAY || from > to) {
            return BAD;
        }
        return bans.daysBetween(d, from, to);
    }

    public int free(int d) {
        return isDriver(d) ? bans.firstFree(d, today) : BAD;
    }

    public int ban(int d, int i, int what) {
        if (!isDriver(d) || i < -1 || what < 0 || what > 4) {
            return BAD;
        }
        if (i == -1) {
            return bans.givenTo(d);
        }
        int place = bans.placeOf(d, i);
        return place < 0 ? NONE : bans.tellOf(place, what);
    }

    // ---- seen

    public int seen(int asker, int d, int what) {
        if (asker < 0 || asker > 3 || !isDriver(d) || what < 0 || what > 2) {
            return BAD;
        }
        int many = 0;
        int points = 0;
        int latest = NONE;
        for (int e = 0; e < events.size; e++) {
            if (events.isConviction(e) && events.driver[e] == d && sees(asker, e)) {
                many++;
                points += events.points[e];
                latest = e;
            }
        }
        if (what == 0) {
            return many;
        }
        return what == 1 ? points : latest;
    }

    public int count(int what) {
        switch (what) {
            case 0: return rules.codes;
            case 1: return events.size;
            case 2: return today;
            case 3: return changes.size;
            case 4: return text.length;
            case 5: return rules.get(WINDOW);
            case 6: return rules.get(LIMIT);
            case 7: return rules.get(BAN);
            case 8: return rules.get(MEMORY);
            case 9: return rules.get(STAY);
            case 10: return rules.get(OFFENCE_STAY);
            case 11: return bans.size;
            default: return BAD;
        }
    }

    private static boolean isDriver(int d) {
        return d >= 0 && d < DRIVERS;
    }

    private boolean canBeOffence(int d, int offence, int k) {
        return isDriver(d) && offence >= 0 && offence <= today && rules.hasCode(k);
    }

    private int daysInAll(int d) {
        return bans.daysBetween(d, 0, LATEST_DAY);
    }

    private int noteNewEvent() {
        int e = events.size - 1;
        changes.note(CAME, e, 0);
        reckoner.reckonNext();
        return e;
    }

    private int retell(int kind, int e, int value) {
        int d = events.driver[e];
        int before = daysInAll(d);
        changes.note(kind, e, events.tell(kind, e, value));
        reckoner.reckonAll();
        return daysInAll(d) - before + ZERO;
    }

    private void liveThrough(int draw) {
        today = Math.min(LATEST_TODAY, today + draw % 16);
        if (events.size >= EVENTS || rules.codes < 1) {
            return;
        }
        int k = draw / 64 % rules.codes;
        int offence = Math.max(0, today - draw / 256 % 32);
        events.addConviction(draw / 16 % DRIVERS, today, offence, k, rules.pointsOf(k), 0);
        noteNewEvent();
    }

    private boolean sees(int asker, int e) {
        if (asker == 0) {
            return true;
        }
        if (events.struck[e] == 1) {
            return false;
        }
        if (asker == 2) {
            return today - events.day[e] < rules.get(STAY);
        }
        return asker != 3 || events.spent[e] == 0 && today - events.offence[e] < rules.get(OFFENCE_STAY);
    }

    /** W, L, B, M, S, S2 and the CODES. */
    private static final class Rules {
        private static final int[] LEAST = {1, 1, 1, 0, 0, 0};
        private static final int[] MOST = {999, 99, 99, 999, 999, 999};
        private static final int[] UNTOLD = {100, 12, 10, 200, 300, 150};

        private final int[] numbers = new int[RULES];
        private final int[] codePoints = new int[CODES];
        private final int[] codeBans = new int[CODES];
        private int codes;

        private void reset() {
            for (int what = 0; what < RULES; what++) {
                numbers[what] = UNTOLD[what];
            }
            codes = 0;
        }

        private void copy(Rules from) {
            for (int what = 0; what < RULES; what++) {
                numbers[what] = from.numbers[what];
            }
            for (int k = 0; k < CODES; k++) {
                codePoints[k] = from.codePoints[k];
                codeBans[k] = from.codeBans[k];
            }
            codes = from.codes;
        }

        private static boolean isRule(int what) {
            return what >= 0 && what < RULES;
        }

        private boolean allows(int what, int number) {
            return isRule(what) && number >= LEAST[what] && number <= MOST[what];
        }

        private int get(int what) {
            return isRule(what) ? numbers[what] : 0;
        }

        private void put(int what, int number) {
            if (isRule(what)) {
                numbers[what] = number;
            }
        }

        private boolean hasCode(int k) {
            return k >= 0 && k < codes && k < CODES;
        }

        private int pointsOf(int k) {
            return hasCode(k) ? codePoints[k] : 0;
        }

        private int ownBanOf(int k) {
            return hasCode(k) ? codeBans[k] : 0;
        }

        private void addCode(int points, int ownBan) {
            if (codes >= 0 && codes < CODES) {
                codePoints[codes] = points;
                codeBans[codes] = ownBan;
                codes++;
            }
        }
    }

    /** THE TEXT and what its last reading found. */
    private static final class RuleText {
        private static final int UNFINISHED = 1, OUT_OF_RANGE = 2, NO_ITEM = 3;

        private final int[] letters = new int[LETTERS];
        private int length;
        private int at;
        private int place;
        private int why;

        private boolean add(int letter) {
            if (length < 0 || length >= LETTERS) {
                return false;
            }
            letters[length] = letter;
            length++;
            return true;
        }

        private void clear() {
            length = 0;
        }

        private void readInto(Rules rules) {
            rules.reset();
            at = 0;
            why = 0;
            for (int item = 0; item < LETTERS && at < length && why == 0; item++) {
                place = at;
                readItem(rules);
            }
        }

        private void readItem(Rules rules) {
            int letter = peek();
            at++;
            switch (letter) {
                case 'w': readRule(rules, WINDOW, 3); break;
                case 'l': readRule(rules, LIMIT, 2); break;
                case 'b': readRule(rules, BAN, 2); break;
                case 'm': readRule(rules, MEMORY, 3); break;
                case 's':
                    readRule(rules, STAY, 3);
                    readRule(rules, OFFENCE_STAY, 3);
                    break;
                case 'k': readCode(rules); break;
                default: why = NO_ITEM; break;
            }
            readEnd();
        }

        /** The letter to be read next; 0, which no letter is, where THE TEXT ends. */
        private int peek() {
            return at >= 0 && at < length && at < LETTERS ? letters[at] : 0;
        }

        private void readRule(Rules rules, int what, int figures) {
            int number = readNumber(figures);
            if (why != 0) {
                return;
            }
            if (rules.allows(what, number)) {
                rules.put(what, number);
            } else {
                why = OUT_OF_RANGE;
            }
        }

        private void readCode(Rules rules) {
            if (rules.codes >= CODES) {
                why = NO_ITEM;
                return;
            }
            int points = readNumber(1);
            if (why == 0 && points == 0) {
                why = OUT_OF_RANGE;
            }
            int ownBan = readNumber(2);
            if (why == 0) {
                rules.addCode(points, ownBan);
            }
        }

        private int readNumber(int figures) {
            int number = 0;
            for (int i = 0; i < figures && why == 0; i++) {
                int letter = peek();
                if (letter < '0' || letter > '9') {
                    why = UNFINISHED;
                } else {
                    number = number * 10 + letter - '0';
                    at++;
                }
            }
            return number;
        }

        private void readEnd() {
            if (why != 0) {
                return;
            }
            if (peek() == ';') {
                at++;
            } else {
                why = UNFINISHED;
            }
        }
    }

    /** The EVENTS as they are told now, and the marks that reckoning puts on them. */
    private static final class Events {
        /** One more than may come, for the conviction that would() supposes when all are there. */
        private static final int PLACES = EVENTS + 1;

        private final int[] driver = new int[PLACES];
        private final int[] day = new int[PLACES];
        private final int[] kind = new int[PLACES];
        private final int[] offence = new int[PLACES];
        private final int[] code = new int[PLACES];
        private final int[] points = new int[PLACES];
        private final int[] special = new int[PLACES];
        private final int[] struck = new int[PLACES];
        private final int[] twice = new int[PLACES];
        private final int[] spent = new int[PLACES];
        private final int[] idle = new int[PLACES];
        /** What the event adds to a window that has its day. */
        private final int[] weight = new int[PLACES];
        private int size;

        private boolean isThere(int e) {
            return e >= 0 && e < size && e < PLACES;
        }

        private boolean isConviction(int e) {
            return isThere(e) && kind[e] == CONVICTION;
        }

        private void addConviction(int d, int today, int offenceDay, int k, int worth, int reasons) {
            if (size < 0 || size >= PLACES) {
                return;
            }
            driver[size] = d;
            day[size] = today;
            kind[size] = CONVICTION;
            offence[size] = offenceDay;
            code[size] = k;
            points[size] = worth;
            special[size] = reasons;
            struck[size] = 0;
            size++;
        }

        private void addCourse(int d, int today, int which) {
            if (size < 0 || size >= PLACES) {
                return;
            }
            driver[size] = d;
            day[size] = today;
            kind[size] = which;
            // so that a light course stands in windows where an offence of its day would
            offence[size] = today;
            size++;
        }

        private void dropLast() {
            if (size > 0) {
                size--;
            }
        }

        private boolean hasLightAfter(int d, int limitDay) {
            for (int e = 0; e < size && e < PLACES; e++) {
                if (driver[e] == d && kind[e] == LIGHT && day[e] > limitDay) {
                    return true;
                }
            }
            return false;
        }

        /** Answers what was told there until now, so that it can be told back. */
        private int tell(int change, int e, int value) {
            if (!isThere(e)) {
                return 0;
            }
            switch (change) {
                case STRUCK: return swap(struck, e, value);
                case LOWERED: return swap(points, e, value);
                case REDATED: return swap(offence, e, value);
                case EXCUSED: return swap(special, e, value);
                default: return 0;
            }
        }

        private int swap(int[] row, int e, int value) {
            if (e < 0 || e >= row.length) {
                return 0;
            }
            int was = row[e];
            row[e] = value;
            return was;
        }

        private int tellOf(int e, int what) {
            if (!isThere(e)) {
                return NONE;
            }
            switch (what) {
                case 0: return driver[e];
                case 1: return day[e];
                case 2: return kind[e];
                case 9: return spent[e];
                case 10: return kind[e] == LONG ? idle[e] : NONE;
                default: return kind[e] == CONVICTION ? tellOfConviction(e, what) : NONE;
            }
        }

        private int tellOfConviction(int e, int what) {
            if (!isThere(e)) {
                return NONE;
            }
            switch (what) {
                case 3: return offence[e];
                case 4: return code[e];
                case 5: return points[e];
                case 6: return special[e];
                case 7: return struck[e];
                case 8: return twice[e];
                default: return NONE;
            }
        }

        private void clearMarks(int e) {
            if (isThere(e)) {
                twice[e] = 0;
                spent[e] = 0;
                idle[e] = 0;
                weight[e] = kind[e] == LIGHT ? -COURSE_WORTH : 0;
            }
        }

        private void spend(int d, int upTo) {
            for (int e = 0; e < upTo && e < PLACES; e++) {
                if (driver[e] == d) {
                    spent[e] = 1;
                    weight[e] = 0;
                }
            }
        }

        private int weigh(int d, int upTo, int start, int width) {
            int total = 0;
            for (int e = 0; e < upTo && e < PLACES; e++) {
                int behind = offence[e] - start;
                if (driver[e] == d && behind >= 0 && behind < width) {
                    total += weight[e];
                }
            }
            return total;
        }
    }

    /** The BANS of all drivers in the order in which they were given. */
    private static final class Bans {
        /** A conviction gives two at most. */
        private static final int PLACES = 2 * (EVENTS + 1);

        private final int[] driver = new int[PLACES];
        private final int[] first = new int[PLACES];
        private final int[] last = new int[PLACES];
        private final int[] conviction = new int[PLACES];
        private final int[] givenOn = new int[PLACES];
        private final int[] great = new int[PLACES];
        private final int[] shortened = new int[PLACES];
        private int size;

        private void add(int d, int firstDay, int many, int e, int t, int isGreat) {
            if (size < 0 || size >= PLACES) {
                return;
            }
            driver[size] = d;
            first[size] = firstDay;
            last[size] = firstDay + many - 1;
            conviction[size] = e;
            givenOn[size] = t;
            great[size] = isGreat;
            shortened[size] = 0;
            size++;
        }

        private boolean has(int i, int d, int day) {
            return i >= 0 && i < PLACES && driver[i] == d && first[i] <= day && day <= last[i];
        }

        private boolean hold(int d, int day) {
            for (int i = 0; i < size && i < PLACES; i++) {
                if (has(i, d, day)) {
                    return true;
                }
            }
            return false;
        }

        private int firstFree(int d, int from) {
            int day = from;
            for (int step = 0; step <= PLACES; step++) {
                int next = dayBehindBansOn(d, day);
                if (next == day) {
                    return day;
                }
                day = next;
            }
            return day;
        }

        /** The day itself if no ban has it. */
        private int dayBehindBansOn(int d, int day) {
            int next = day;
            for (int i = 0; i < size && i < PLACES; i++) {
                if (has(i, d, day)) {
                    next = Math.max(next, last[i] + 1);
                }
            }
            return next;
        }

        private int daysBetween(int d, int from, int to) {
            int total = 0;
            int day = from;
            for (int step = 0; step <= PLACES + 1 && day <= to; step++) {
                int end = firstFree(d, day);
                total += Math.min(end, to + 1) - day;
                day = nextFirstDay(d, end, to + 1);
            }
            return total;
        }

        private int nextFirstDay(int d, int day, int otherwise) {
            int next = otherwise;
            for (int i = 0; i < size && i < PLACES; i++) {
                if (driver[i] == d && first[i] > day) {
                    next = Math.min(next, first[i]);
                }
            }
            return next;
        }

        private int latestDay(int d) {
            int latest = -1;
            for (int i = 0; i < size && i < PLACES; i++) {
                if (driver[i] == d) {
                    latest = Math.max(latest, last[i]);
                }
            }
            return latest;
        }

        private int greatSince(int d, int day) {
            int many = 0;
            for (int i = 0; i < size && i < PLACES; i++) {
                if (driver[i] == d && great[i] == 1 && givenOn[i] >= day) {
                    many++;
                }
            }
            return many;
        }

        /** The ban that a long course on day t shortens, -1: none. */
        private int toShorten(int d, int t) {
            int found = -1;
            int longest = t;
            for (int i = 0; i < size && i < PLACES; i++) {
                if (has(i, d, t) && shortened[i] == 0 && last[i] >= longest) {
                    found = i;
                    longest = last[i];
                }
            }
            return found;
        }

        private void shorten(int i, int t) {
            if (i >= 0 && i < PLACES) {
                int length = last[i] - first[i] + 1;
                last[i] = Math.max(last[i] - length / 4, t);
                shortened[i] = 1;
            }
        }

        private int givenTo(int d) {
            int many = 0;
            for (int i = 0; i < size && i < PLACES; i++) {
                if (driver[i] == d) {
                    many++;
                }
            }
            return many;
        }

        /** Where the driver's n-th ban stands, -1: not so many. */
        private int placeOf(int d, int n) {
            int many = 0;
            for (int i = 0; i < size && i < PLACES; i++) {
                if (driver[i] == d) {
                    if (many == n) {
                        return i;
                    }
                    many++;
                }
            }
            return -1;
        }

        private int tellOf(int i, int what) {
            if (i < 0 || i >= PLACES) {
                return NONE;
            }
            switch (what) {
                case 0: return first[i];
                case 1: return last[i] - first[i] + 1;
                case 2: return conviction[i];
                case 3: return great[i];
                default: return shortened[i];
            }
        }
    }

    /** Goes through the events in order: marks them and gives and shortens bans. */
    private static final class Reckoner {
        private final Rules rules;
        private final Events events;
        private final Bans bans;
        /** The events reckoned so far; those behind do not count yet. */
        private int soFar;

        private Reckoner(Rules rules, Events events, Bans bans) {
            this.rules = rules;
            this.events = events;
            this.bans = bans;
        }

        private void reckonAll() {
            bans.size = 0;
            soFar = 0;
            for (int e = 0; e < events.size; e++) {
                reckonNext();
            }
        }

        /** Enough for an event that came last: it changes nothing of what stands ahead of it. */
        private void reckonNext() {
            int e = soFar;
            if (!events.isThere(e)) {
                return;
            }
            soFar++;
            events.clearMarks(e);
            if (events.kind[e] == LONG) {
                reckonLong(e);
            } else if (events.kind[e] == CONVICTION && events.struck[e] == 0) {
                reckonConviction(e);
            }
        }

        private void reckonLong(int e) {
            if (!events.isThere(e)) {
                return;
            }
            int t = events.day[e];
            int i = bans.toShorten(events.driver[e], t);
            if (i < 0) {
                events.idle[e] = 1;
            } else {
                bans.shorten(i, t);
            }
        }

        private void reckonConviction(int e) {
            if (!events.isThere(e)) {
                return;
            }
            int d = events.driver[e];
            int t = events.day[e];
            int o = events.offence[e];
            // ahead of the own ban, which must not double the offence that brings it
            boolean isDouble = bans.hold(d, o);
            events.twice[e] = isDouble ? 1 : 0;
            events.weight[e] = isDouble ? 2 * events.points[e] : events.points[e];
            int ownBan = rules.ownBanOf(events.code[e]);
            if (ownBan > 0) {
                bans.add(d, t, ownBan, e, t, 0);
            }
            if (events.special[e] == 0 && heaviest(d, o) >= rules.get(LIMIT)) {
                giveGreatBan(d, e, t);
            }
        }

        private void giveGreatBan(int d, int e, int t) {
            int earlier = bans.greatSince(d, t - rules.get(MEMORY));
            int times = earlier == 0 ? 1 : earlier == 1 ? 2 : 4;
            int firstDay = Math.max(t, bans.latestDay(d) + 1);
            bans.add(d, firstDay, times * rules.get(BAN), e, t, 1);
            events.spend(d, soFar);
        }

        /** The weight of the heaviest window that has the day; below 0 where courses outweigh. */
        private int heaviest(int d, int day) {
            int width = rules.get(WINDOW);
            int earliest = day - width + 1;
            int most = events.weigh(d, soFar, earliest, width);
            for (int e = 0; e < soFar && e < Events.PLACES; e++) {
                // a later window can weigh more only if an offence has come in or a course dropped out
                int start = events.kind[e] == CONVICTION ? events.offence[e] - width + 1 : events.day[e] + 1;
                if (events.driver[e] == d && start > earliest && start <= day) {
                    most = Math.max(most, events.weigh(d, soFar, start, width));
                }
            }
            return most;
        }
    }

    /** The latest changes, the oldest first, each with what was told ahead of it. */
    private static final class Changes {
        private final int[] kind = new int[CHANGES];
        private final int[] where = new int[CHANGES];
        private final int[] was = new int[CHANGES];
        private int size;
        private int droppedKind;
        private int droppedWhere;
        private int droppedWas;

        private void note(int which, int place, int before) {
            if (size >= CHANGES) {
                forgetOldest();
            }
            if (size >= 0 && size < CHANGES) {
                kind[size] = which;
                where[size] = place;
                was[size] = before;
                size++;
            }
        }

        private void forgetOldest() {
            for (int i = 1; i < CHANGES; i++) {
                kind[i - 1] = kind[i];
                where[i - 1] = where[i];
                was[i - 1] = was[i];
            }
            size = CHANGES - 1;
        }

        private boolean dropLast() {
            if (size < 1 || size > CHANGES) {
                return false;
            }
            size--;
            droppedKind = kind[size];
            droppedWhere = where[size];
            droppedWas = was[size];
            return true;
        }
    }
}
