/** Counts and prints the answers that are not as due. */
final class Check {
    private static int wrong = 0;
    private static int asked = 0;

    private Check() {
    }

    interface Call {
        void run();
    }

    static void same(String call, long got, long due) {
        asked++;
        if (got != due) {
            wrong++;
            System.out.println(call + " answered " + got + ", due is " + due);
        }
    }

    static void yes(String call, boolean got) {
        same(call, got ? 1 : 0, 1);
    }

    static void no(String call, boolean got) {
        same(call, got ? 1 : 0, 0);
    }

    /** Of two texts of many lines the first line that differs is printed. */
    static void alike(String call, String got, String due) {
        asked++;
        if (!got.equals(due)) {
            wrong++;
            String[] gotLines = got.split("\n");
            String[] dueLines = due.split("\n");
            int line = 0;
            while (line < gotLines.length && line < dueLines.length
                    && gotLines[line].equals(dueLines[line])) {
                line++;
            }
            System.out.println(call + ": " + lineOf(gotLines, line)
                    + ", due is " + lineOf(dueLines, line));
        }
    }

    private static String lineOf(String[] lines, int line) {
        return line < lines.length ? lines[line] : "nothing more";
    }

    static void illegalArgument(String call, Call body) {
        throwsJust(call, body, IllegalArgumentException.class);
    }

    static void illegalState(String call, Call body) {
        throwsJust(call, body, IllegalStateException.class);
    }

    private static void throwsJust(String call, Call body, Class<?> due) {
        asked++;
        String got = "nothing";
        try {
            body.run();
        } catch (RuntimeException e) {
            got = e.getClass().getName();
        }
        if (!got.equals(due.getName())) {
            wrong++;
            System.out.println(call + " threw " + got + ", due is " + due.getName());
        }
    }

    static void end() {
        System.out.println(asked + " answers asked, " + wrong + " not as due");
        if (wrong != 0) {
            System.exit(1);
        }
    }
}
