/** Counts and prints answers that are not as due; a test's main method ends with finish(). */
final class Check {
    private int wrong = 0;
    private int looked = 0;
    private int cases = 0;
    private String where = "";

    void at(String place) {
        where = place;
    }

    void is(String call, long got, long due) {
        looked++;
        if (got != due) {
            wrong++;
            if (wrong <= 40) {
                System.out.println(where + ": " + call + " answered " + got + ", due is " + due);
            }
        }
    }

    void is(String call, boolean got, boolean due) {
        is(call, got ? 1 : 0, due ? 1 : 0);
    }

    void isText(String call, String got, String due) {
        looked++;
        if (!got.equals(due)) {
            wrong++;
            if (wrong <= 40) {
                System.out.println(where + ": " + call + " answered " + got + ", due is " + due);
            }
        }
    }

    /** The call must throw just that class. */
    void throwsJust(String call, Class<? extends RuntimeException> due, Runnable body) {
        String got = "nothing";
        try {
            body.run();
        } catch (RuntimeException e) {
            got = e.getClass().getName();
        }
        isText(call + " throws", got, due.getName());
    }

    /** One boundary case of the document, alone; what it throws by itself is a wrong answer, too. */
    void edge(String sentence, Runnable body) {
        where = sentence;
        cases++;
        int before = looked;
        try {
            body.run();
        } catch (RuntimeException e) {
            isText("a call throws", e.toString(), "nothing");
        }
        is("looks at something", looked > before, true);
    }

    int wrong() {
        return wrong;
    }

    void finish() {
        String alone = cases == 0 ? "" : cases + " cases, ";
        System.out.println(alone + looked + " answers looked at, " + wrong + " not as due");
        if (wrong != 0) {
            System.exit(1);
        }
    }
}
