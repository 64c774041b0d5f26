import java.util.List;

/**
 * Collects the answers that are not the ones that are due. Public where the program made of README.md asks it,
 * as that has a loader of its own.
 */
public final class Due {
    private int wrong = 0;
    private int asked = 0;
    private String about = "";

    /** What the answers from now on are about: it stands ahead of each one that is told. */
    void about(String what) {
        about = what.isEmpty() ? "" : what + ": ";
    }

    public void is(String what, long got, long due) {
        asked++;
        if (got != due) {
            tell(what + " answered " + got + ", due is " + due);
        }
    }

    public void is(String what, boolean got, boolean due) {
        is(what, got ? 1L : 0L, due ? 1L : 0L);
    }

    /** Two states, as State tells them: of those that differ the first line is told. */
    void alike(String what, List<String> got, List<String> due) {
        asked++;
        int shorter = Math.min(got.size(), due.size());
        for (int i = 0; i < shorter; i++) {
            if (!got.get(i).equals(due.get(i))) {
                tell(what + " came to " + got.get(i) + ", due is " + due.get(i));
                return;
            }
        }
        if (got.size() != due.size()) {
            tell(what + " came to " + got.size() + " answers, due are " + due.size());
        }
    }

    void tell(String what) {
        wrong++;
        System.out.println(about + what);
    }

    void end() {
        System.out.println(wrong == 0 ? asked + " answers are as due" : wrong + " of " + asked + " answers are not as due");
        if (wrong != 0) {
            System.exit(1);
        }
    }
}
