/** One sentence of the document that names a boundary, and what is asked on either side of it. */
final class Sentence {
    private final Checks checks;
    private final String words;
    private int inside;
    private int outside;

    /** The words are those of the document. */
    Sentence(Checks checks, String words) {
        this.checks = checks;
        this.words = words;
    }

    void inside(String what, Object got, Object due) {
        inside++;
        checks.same("'" + words + "' inside, " + what, got, due);
    }

    void outside(String what, Object got, Object due) {
        outside++;
        checks.same("'" + words + "' outside, " + what, got, due);
    }

    /** For what is asked of each input on its way from inside to outside. */
    void side(boolean isInside, String what, Object got, Object due) {
        if (isInside) {
            inside(what, got, due);
        } else {
            outside(what, got, due);
        }
    }

    /** A boundary is only tested if something was asked on both sides of it. */
    void end() {
        checks.same("'" + words + "' is asked inside", inside > 0, true);
        checks.same("'" + words + "' is asked outside", outside > 0, true);
    }
}
