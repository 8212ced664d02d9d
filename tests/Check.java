/** What the tests share: counting answers that are not the ones that are due. */
final class Check {
    interface Call {
        Object run();
    }

    private static int wrong = 0;
    private static int checked = 0;
    private static String about = "";

    /** What the next checks are for; it is told ahead of an answer that is not due. */
    static void about(String text) {
        about = text.isEmpty() ? "" : text + ": ";
    }

    static int count() {
        return checked;
    }

    static void same(String what, Object got, Object due) {
        checked++;
        if (!due.equals(got)) {
            wrong++;
            System.out.println(about + what + " answered " + got + ", due is " + due);
        }
    }

    static void isTrue(String what, boolean got) {
        same(what, got, true);
    }

    static void isFalse(String what, boolean got) {
        same(what, got, false);
    }

    /** The call has to throw exactly this. */
    static void fails(String what, Class<? extends RuntimeException> due, Call call) {
        String got;
        try {
            got = "answered " + call.run();
        } catch (RuntimeException e) {
            got = e.getClass().getName();
        }
        same(what, got, due.getName());
    }

    static void end(String name) {
        System.out.println(name + ": " + checked + " checked, " + wrong + " wrong");
        if (wrong != 0) {
            System.exit(1);
        }
    }

    private Check() {
    }
}
