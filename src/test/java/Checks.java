/** Counts and prints the answers that are not as due. */
final class Checks {
    private int wrong = 0;
    private String words = "";

    /** The document's words that the checks from here on are about; each wrong answer tells them. */
    void words(String quoted) {
        words = quoted;
    }

    /** Something that must not throw, whatever else it does. */
    void quiet(String what, Runnable call) {
        try {
            call.run();
        } catch (RuntimeException e) {
            fail(what + " threw " + e + ", due is nothing");
        }
    }

    void text(String what, String got, String due) {
        if (!got.equals(due)) {
            fail(what + " answered " + got + ", due is " + due);
        }
    }

    void same(String what, long got, long due) {
        if (got != due) {
            fail(what + " answered " + got + ", due is " + due);
        }
    }

    void yes(String what, boolean got) {
        if (!got) {
            fail(what + " is false, due is true");
        }
    }

    void no(String what, boolean got) {
        if (got) {
            fail(what + " is true, due is false");
        }
    }

    void badArgument(String what, Runnable call) {
        thrown(what, call, IllegalArgumentException.class);
    }

    void badState(String what, Runnable call) {
        thrown(what, call, IllegalStateException.class);
    }

    private void thrown(String what, Runnable call, Class<? extends RuntimeException> due) {
        try {
            call.run();
            fail(what + " threw nothing, due is " + due.getName());
        } catch (RuntimeException e) {
            if (e.getClass() != due) {
                fail(what + " threw " + e + ", due is " + due.getName());
            }
        }
    }

    private void fail(String text) {
        wrong++;
        System.out.println(words.isEmpty() ? text : "\"" + words + "\": " + text);
    }

    void end() {
        if (wrong != 0) {
            System.out.println(wrong + " answers are not as due");
            System.exit(1);
        }
    }
}
