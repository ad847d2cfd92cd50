import java.util.Objects;

/** Counts what is not as it is due, and ends the test with it. */
final class Checks {
    private final String test;
    private int made;
    private int wrong;

    Checks(String test) {
        this.test = test;
    }

    void same(String what, Object got, Object due) {
        made++;
        if (!Objects.equals(got, due)) {
            wrong++;
            System.out.println(test + ": " + what + ": got " + got + ", due is " + due);
        }
    }

    boolean allSame() {
        return wrong == 0;
    }

    void end() {
        System.out.println(test + ": " + made + " checks, " + wrong + " wrong");
        if (wrong != 0 || made == 0) {
            System.exit(1);
        }
    }
}
