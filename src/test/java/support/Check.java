/** Counts the answers that are not as due; finish() ends with exit code 1 if there were any. */
final class Check {
    private int wrong;
    private int asked;
    private String part = "";

    void part(String name) {
        part = name;
    }

    void due(String call, long got, long want) {
        asked++;
        if (got != want) {
            wrong++;
            System.out.println(part + ": " + call + " answered " + got + ", due is " + want);
        }
    }

    void isTrue(String what, boolean holds) {
        due(what, holds ? 1 : 0, 1);
    }

    static void writeAll(PointsOffice office, String text) {
        for (int i = 0; i < text.length(); i++) {
            office.write(text.charAt(i));
        }
    }

    /** A new office with the rules of a text. */
    static PointsOffice laid(String text) {
        PointsOffice office = new PointsOffice();
        writeAll(office, text);
        if (office.lay() < 0) {
            throw new IllegalStateException("the test's text is not laid: " + text);
        }
        return office;
    }

    void finish() {
        System.out.println(asked + " answers asked, " + wrong + " not as due");
        if (wrong != 0 || asked == 0) {
            System.exit(1);
        }
    }
}
