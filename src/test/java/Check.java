/** What all tests of the project share: they count wrong answers and end with 1 if there was one. */
final class Check {
    /** Longer than any number that is ever written, so that reading the out ends in any case. */
    private static final int MOST_BYTES = 2000;

    private static int wrong = 0;

    private Check() {
    }

    static void same(String what, long got, long due) {
        if (got != due) {
            say(what + " answered " + got + ", due is " + due);
        }
    }

    static void say(String text) {
        wrong++;
        System.out.println(text);
    }

    /** The out is read to its end, and one byte further: each byte is a call of the 512 that an object has. */
    static String out(ResidualTrees trees) {
        StringBuilder text = new StringBuilder();
        int next = trees.byteAt(0);
        while (next != ResidualTrees.NONE && text.length() < MOST_BYTES) {
            text.append((char) next);
            next = trees.byteAt(text.length());
        }
        return text.toString();
    }

    static void written(String what, ResidualTrees trees, int length, String due) {
        String got = out(trees);
        if (!got.equals(due)) {
            say(what + " wrote " + got + ", due is " + due);
        }
        same(what, length, due.length());
        same(what + ", then count(4)", trees.count(4), due.length());
    }

    static void badArgument(String what, Runnable call) {
        refused(what, IllegalArgumentException.class, call);
    }

    static void badState(String what, Runnable call) {
        refused(what, IllegalStateException.class, call);
    }

    static void refused(String what, Class<? extends RuntimeException> due, Runnable call) {
        try {
            call.run();
            say(what + " threw nothing, due is " + due.getSimpleName());
        } catch (RuntimeException e) {
            if (e.getClass() != due) {
                say(what + " threw " + e + ", due is " + due.getSimpleName());
            }
        }
    }

    static void end() {
        System.out.println(wrong == 0 ? "all answers are as due" : wrong + " answers are not as due");
        if (wrong != 0) {
            System.exit(1);
        }
    }
}
