/** Counts answers that are not the ones due, and prints them. */
final class Check {
    interface Call {
        long run();
    }

    private int wrong;
    private int asked;

    void same(String what, long got, long due) {
        asked++;
        if (got != due) {
            wrong++;
            System.out.println(what + " answered " + got + ", due is " + due);
        }
    }

    /** The very class is asked for, and one of the document's own throws: the machine's have another text. */
    void refused(String what, Class<? extends RuntimeException> due, Call call) {
        asked++;
        String got;
        try {
            got = "answered " + call.run();
        } catch (RuntimeException e) {
            boolean ours = e.getClass() == due && isThrownByHand(e);
            got = ours ? "" : "threw " + e;
        }
        if (!got.isEmpty()) {
            wrong++;
            System.out.println(what + " " + got + ", due is " + due.getName());
        }
    }

    static boolean isThrownByHand(RuntimeException e) {
        String text = e.getMessage();
        return text != null && !text.startsWith("Index ") && !text.startsWith("Cannot ") && !text.startsWith("arraycopy");
    }

    void end() {
        if (wrong > 0 || asked == 0) {
            System.out.println(wrong + " of " + asked + " wrong");
            System.exit(1);
        }
    }
}
