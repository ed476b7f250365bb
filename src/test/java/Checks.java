/** Counts answers that are not the ones that are due, as the shared tests do. */
final class Checks {
    private int wrong = 0;
    private int made = 0;
    private String sentence = "";

    /** The words of the document that the checks behind this stand for. */
    void sentence(String words) {
        sentence = "'" + words + "': ";
    }

    void due(String what, long got, long want) {
        made++;
        if (got != want) {
            wrong++;
            System.out.println(sentence + what + " answered " + got + ", due is " + want);
        }
    }

    void holds(String what, boolean isSo) {
        made++;
        if (!isSo) {
            wrong++;
            System.out.println(sentence + what + " is not so");
        }
    }

    int wrong() {
        return wrong;
    }

    void end(String name) {
        System.out.println(name + ": " + made + " checks, " + wrong + " wrong");
        if (wrong != 0) {
            System.exit(1);
        }
    }

    static void writeAll(ThirstRow x, String text) {
        for (int i = 0; i < text.length(); i++) {
            x.write(text.charAt(i));
        }
    }

    /** A new object whose ROW is told so. */
    static ThirstRow rowOf(String text) {
        ThirstRow x = new ThirstRow();
        writeAll(x, text);
        x.row();
        return x;
    }

    static int faultOf(String text) {
        ThirstRow x = new ThirstRow();
        writeAll(x, text);
        return x.fault();
    }
}
