import java.util.function.Consumer;
import java.util.function.ToIntFunction;

/** How things stand behind some calls on a new office; tells whether a refused call leaves all of it as it was. */
final class Stand {
    /** An object is promised to answer 512 calls, those that brought it to this stand among them. */
    private static final int ASKED_OF_ONE_OFFICE = 250;

    private final Check check;
    private final Consumer<PointsOffice> steps;
    private final String portrait;

    Stand(Check check, Consumer<PointsOffice> steps) {
        this.check = check;
        this.steps = steps;
        this.portrait = portraitBehind(steps);
    }

    /** A new office that stands so. */
    PointsOffice office() {
        return officeBehind(steps);
    }

    void refuses(String name, int due, ToIntFunction<PointsOffice> call) {
        check.due(name, call.applyAsInt(office()), due);
        changesNothing(name, call);
    }

    void changesNothing(String name, ToIntFunction<PointsOffice> call) {
        String after = portraitBehind(steps.andThen(x -> call.applyAsInt(x)));
        check.isTrue(name + " changes nothing" + firstDifference(after), after.equals(portrait));
    }

    private String firstDifference(String after) {
        String[] were = portrait.split("\n");
        String[] are = after.split("\n");
        for (int i = 0; i < were.length && i < are.length; i++) {
            if (!were[i].equals(are[i])) {
                return " (it was " + were[i] + ", it is " + are[i] + ")";
            }
        }
        return "";
    }

    private static PointsOffice officeBehind(Consumer<PointsOffice> steps) {
        PointsOffice office = new PointsOffice();
        steps.accept(office);
        return office;
    }

    /** All that can be asked, as things stand and with one, two, .. changes undone. */
    private static String portraitBehind(Consumer<PointsOffice> steps) {
        StringBuilder told = new StringBuilder();
        int undoable = officeBehind(steps).count(3);
        for (int undone = 0; undone <= undoable; undone++) {
            int times = undone;
            Asked asked = new Asked(told, steps.andThen(x -> undo(x, times)));
            told.append(undone).append(" undone\n");
            askOfEvents(asked);
            for (int d = 0; d < 4; d++) {
                askOfDriver(asked, d);
            }
        }
        told.append("the text\n");
        askOfText(new Asked(told, steps));
        told.append("the text laid\n");
        askOfEvents(new Asked(told, steps.andThen(x -> x.lay())));
        return told.toString();
    }

    private static void undo(PointsOffice office, int times) {
        for (int i = 0; i < times; i++) {
            office.undo();
        }
    }

    private static void askOfText(Asked asked) {
        asked.ask("fault()", x -> x.fault());
        asked.ask("reason()", x -> x.reason());
        asked.ask("wipe()", x -> x.wipe());
    }

    private static void askOfEvents(Asked asked) {
        for (int i = 0; i < 12; i++) {
            int what = i;
            asked.ask("count(" + what + ")", x -> x.count(what));
        }
        for (int i = 0; i < 12; i++) {
            int k = i / 2;
            int what = i % 2;
            asked.ask("code(" + k + ", " + what + ")", x -> x.code(k, what));
        }
        int events = asked.ask("count(1)", x -> x.count(1));
        for (int i = 0; i < events * 11; i++) {
            int e = i / 11;
            int what = i % 11;
            asked.ask("event(" + e + ", " + what + ")", x -> x.event(e, what));
        }
    }

    private static void askOfDriver(Asked asked, int d) {
        int bans = asked.ask("ban(" + d + ", -1, 0)", x -> x.ban(d, -1, 0));
        for (int j = 0; j < bans * 5; j++) {
            int i = j / 5;
            int what = j % 5;
            asked.ask("ban(" + d + ", " + i + ", " + what + ")", x -> x.ban(d, i, what));
        }
        for (int j = 0; j < 12; j++) {
            int asker = j / 3;
            int what = j % 3;
            asked.ask("seen(" + asker + ", " + d + ", " + what + ")", x -> x.seen(asker, d, what));
        }
        int today = asked.ask("count(2)", x -> x.count(2));
        asked.ask("need(" + d + ")", x -> x.need(d));
        asked.ask("free(" + d + ")", x -> x.free(d));
        asked.ask("days(" + d + ", 0, 99999)", x -> x.days(d, 0, 99999));
        asked.ask("sum(" + d + ", " + today + ")", x -> x.sum(d, today));
        asked.ask("banned(" + d + ", " + today + ")", x -> x.banned(d, today));
        asked.ask("would(" + d + ", " + today + ", 0)", x -> x.would(d, today, 0));
    }

    /** Puts down every answer, and makes the office anew where it would be asked too often. */
    private static final class Asked {
        private final StringBuilder told;
        private final Consumer<PointsOffice> steps;
        private PointsOffice office;
        private int calls;

        Asked(StringBuilder told, Consumer<PointsOffice> steps) {
            this.told = told;
            this.steps = steps;
        }

        int ask(String name, ToIntFunction<PointsOffice> call) {
            if (office == null || calls == ASKED_OF_ONE_OFFICE) {
                office = officeBehind(steps);
                calls = 0;
            }
            calls++;
            int answer = call.applyAsInt(office);
            told.append(name).append(" = ").append(answer).append('\n');
            return answer;
        }
    }
}
