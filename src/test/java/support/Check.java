/** Compares answers with what is due, prints those that differ, and counts both. */
final class Check {
    private int compared = 0;
    private int wrong = 0;
    private String part = "";

    /** Something that is called; a call that throws answers by its exception. */
    interface Call {
        Object answer();
    }

    void part(String name) {
        part = name;
    }

    void same(String call, Object got, Object due) {
        compared++;
        if (!String.valueOf(got).equals(String.valueOf(due))) {
            wrong++;
            System.out.println(part + ": " + call + " answered " + got + ", due is " + due);
        }
    }

    /** The very class is compared: a kind of it, as the machine throws, is wrong. */
    void refused(String call, Class<? extends RuntimeException> due, Call made) {
        same(call, answerOf(made), due.getName());
    }

    static Object answerOf(Call made) {
        try {
            return made.answer();
        } catch (RuntimeException thrown) {
            return thrown.getClass().getName();
        }
    }

    int wrong() {
        return wrong;
    }

    int compared() {
        return compared;
    }

    void end() {
        System.out.println(wrong == 0 ? "all " + compared + " answers are as due"
                : wrong + " of " + compared + " answers are not as due");
        if (wrong != 0 || compared == 0) {
            System.exit(1);
        }
    }
}
