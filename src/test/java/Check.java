/** Counts wrong answers, and prints each. */
final class Check {
    interface Call {
        long answer();
    }

    private static int wrong = 0;

    private Check() {
    }

    static void due(String what, long got, long want) {
        if (got != want) {
            wrong++;
            System.out.println(what + " answered " + got + ", due is " + want);
        }
    }

    static void due(String what, boolean got, boolean want) {
        due(what, got ? 1 : 0, want ? 1 : 0);
    }

    /** The call must throw this exception (and no subclass of it), and leave the digest of the desk as it was. */
    static void refused(String what, ChannelSpacer desk, Class<? extends Exception> wanted, Call call) {
        long before = desk.digest();
        String answer;
        try {
            answer = String.valueOf(call.answer());
        } catch (RuntimeException e) {
            answer = e.getClass().getName();
        }
        if (!answer.equals(wanted.getName())) {
            wrong++;
            System.out.println(what + " answered " + answer + ", due is " + wanted.getName());
        }
        due(what + ": digest behind the refused call", desk.digest(), before);
    }

    static void complain(String text) {
        wrong++;
        System.out.println(text);
    }

    static void end() {
        System.out.println(wrong == 0 ? "all answers are as due" : wrong + " answers are not as due");
        if (wrong != 0) {
            System.exit(1);
        }
    }
}
