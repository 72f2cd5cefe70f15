/** Runs of calls, each on its own object, with the answers that are due. */
final class Runs {
    private static final String I = "throws.IndexOutOfBoundsException";
    private static final String A = "throws.IllegalArgumentException";
    private static final String S = "throws.IllegalStateException";
    private static final int MOST_CALLS = 512;

    private static int runs;
    private static int wrong;

    private Runs() {
    }

    /**
     * A run: lines of calls, each with "=" and the answer that is due; I, A and S stand for exceptions.
     * A call that throws has to change nothing, so the digest is taken ahead of it and behind it.
     */
    static void run(String title, String lines) {
        runs++;
        Calls calls = new Calls(new Mailroom());
        for (String line : lines.split("\n")) {
            if (line.isBlank()) {
                continue;
            }
            int equals = line.indexOf(" =");
            String call = line.substring(0, equals).trim();
            String told = line.substring(equals + 2).trim();
            String thrown = told.equals("I") ? I : told.equals("A") ? A : told.equals("S") ? S : null;
            if (thrown == null) {
                due(title + ": " + call, calls.answer(call), told);
            } else {
                String before = calls.answer("digest()");
                due(title + ": " + call, calls.answer(call), thrown);
                due(title + ": digest() behind " + call, calls.answer("digest()"), before);
            }
        }
        due(title + ": isSound() in the end", calls.answer("isSound()"), "1");
        due(title + ": no more calls than promised", calls.made() <= MOST_CALLS ? "so" : "" + calls.made(), "so");
    }

    static void due(String title, String got, String due) {
        if (!got.equals(due)) {
            wrong++;
            System.out.println(title + " answered " + got + ", due is " + due);
        }
    }

    /** Tells how it went, and ends with 1 if something was not as due. */
    static void end(String what) {
        if (wrong > 0) {
            System.out.println(wrong + " answers are not as due");
            System.exit(1);
        }
        System.out.println(runs + " runs by " + what + " are as due");
    }
}
