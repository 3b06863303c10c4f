import java.util.List;

/** Counts and prints the answers of a test that are not the ones that are due. */
final class Due {
    private final String title;
    private int asked;
    private int wrong;

    Due(String title) {
        this.title = title;
    }

    void same(String call, long answer, long due) {
        asked++;
        if (answer != due) {
            tell(call + " answered " + answer + ", due is " + due);
        }
    }

    /** Whether two objects told the same story; what differs first is printed. */
    void same(String call, List<String> answers, List<String> due) {
        asked++;
        for (int i = 0; i < Math.max(answers.size(), due.size()); i++) {
            String answer = i < answers.size() ? answers.get(i) : "nothing";
            String wanted = i < due.size() ? due.get(i) : "nothing";
            if (!answer.equals(wanted)) {
                tell(call + ", then " + answer + ", due is " + wanted);
                return;
            }
        }
    }

    void same(String call, double answer, double due) {
        asked++;
        if (answer != due) {
            tell(call + " answered " + answer + ", due is " + due);
        }
    }

    void yes(String call, boolean answer) {
        same(call, answer ? 1 : 0, 1);
    }

    void no(String call, boolean answer) {
        same(call, answer ? 1 : 0, 0);
    }

    /** Due is an IndexOutOfBoundsException. */
    void noPlace(String call, Runnable made) {
        refused(call, made, IndexOutOfBoundsException.class);
    }

    /** Due is an IllegalArgumentException. */
    void noArgument(String call, Runnable made) {
        refused(call, made, IllegalArgumentException.class);
    }

    /** The class itself is due: what the machine throws is often of a class below it. */
    void refused(String call, Runnable made, Class<?> due) {
        asked++;
        try {
            made.run();
        } catch (RuntimeException thrown) {
            if (thrown.getClass() != due) {
                tell(call + " threw " + thrown + ", due is " + due.getSimpleName());
            }
            return;
        }
        tell(call + " threw nothing, due is " + due.getSimpleName());
    }

    void tell(String text) {
        wrong++;
        if (wrong <= 30) {
            System.out.println(title + ": " + text);
        }
    }

    int asked() {
        return asked;
    }

    int wrong() {
        return wrong;
    }

    void end() {
        System.out.println(title + ": " + asked + " answers, " + wrong + " wrong");
        if (wrong != 0) {
            System.exit(1);
        }
    }
}
