import java.util.ArrayList;
import java.util.List;

/**
 * Two objects that are called alike, but for one thing that has to leave all else as it was: a RECORD that is torn
 * and then written, a fall, an image, a knock, a call that throws. All that can be asked is the same then.
 */
public final class TwinsTest {
    /** What there is in all runs: of each kind something, in both ACCOUNTS. */
    private static final String[] MADE = {"upload(0, 5, 1, 2, 3, 0)", "upload(0, 6, 2, 2, 4, 3)", "upload(0, 7, 3, 1, 5, 0)",
        "upload(1, 8, 4, 2, 3, 0)", "newMailbox(0, 0, -1, 1, 1)", "newMailbox(0, 1, -2, 2, 0)", "newMailbox(0, 2, -1, 3, 0)",
        "newEmail(0, 1, -2, 0, 9)", "newEmail(0, 2, -3, 2, 8)", "submit(0, -6, 0, 50)", "submit(0, -6, 1, 60)",
        "submit(0, -5, 2, 70)", "run(0)", "newMailbox(1, 0, -1, 1, 0)", "newEmail(1, 1, -2, 0, 3)",
        "submit(1, -3, 0, 55)", "run(1)", "filter(1, 1, -1, 0, -1, -1)", "sequence(2, 1, true, true)",
        "changeEmail(0, 1, 2, 3)", "run(0)", "newMailbox(0, 5, -1, 0, 0)", "newMailbox(0, 5, 3, 0, 0)", "run(0)"};

    /** What is typed, and the call that writes a RECORD, one run each. */
    private static final String[][] WRITTEN = {
        {"upload(0, 1, 0, 0, 1, 0)"},
        {"upload(1, 99, 9, 9, 99, 99)"},
        {"sweep(0)"},
        {"quota(0, 7)"},
        {"quota(1, 400)"},
        {"newMailbox(0, 9, 4, 4, 9)", "run(0)"},
        {"changeMailbox(0, 1, 0, 9)", "run(0)"},
        {"changeMailbox(0, 4, 1, 1)", "run(0)"},
        {"changeMailbox(0, 4, 2, 5)", "run(0)"},
        {"changeMailbox(0, 4, 3, 5)", "run(0)"},
        {"dropMailbox(0, 2, true)", "run(0)"},
        {"dropMailbox(0, 5, false)", "run(0)"},
        {"newEmail(0, 3, 4, 5, 0)", "run(0)"},
        {"newEmail(0, 1, 4, 0, 0)", "run(0)"},
        {"changeEmail(0, 1, 0, 0)", "run(0)"},
        {"changeEmail(0, 2, 1, 1)", "run(0)"},
        {"changeEmail(0, 2, 2, 4)", "run(0)"},
        {"changeEmail(0, 1, 3, 3)", "run(0)"},
        {"changeEmail(0, 1, 0, 5)", "changeEmail(0, 1, 1, 5)", "run(0)"},
        {"dropEmail(0, 1)", "run(0)"},
        {"dropEmail(0, 1)", "dropEmail(0, 2)", "run(0)"},
        {"submit(0, 1, 2, 9)", "run(0)"},
        {"undo(0, 2)", "run(0)"},
        {"newEmail(0, 3, 4, 5, 0)", "dropEmail(0, -2)", "newMailbox(0, 9, 4, 0, 0)", "dropMailbox(0, -4, true)", "run(0)"},
        {"clock(50)"},
        {"clock(55)"},
        {"clock(999)"},
        {"dropEmail(0, 2)", "run(0)", "clock(60)"},
        {"changeMailbox(0, 1, 2, 0)", "run(0)", "clock(60)"},
        {"quota(0, 1)", "clock(999)"},
    };

    /** What changes nothing but what house() tells. */
    private static final String[] SPARED = {"fall()", "image()", "knock()", "run(0)", "run(1)", "clear(0)", "clock(0)",
        "quota(2, 5)", "upload(0, 0, 0, 0, 1, 0)", "dropEmail(0, 0)", "bind(0, 4, 0)", "ask(4, 0, 0, 0)", "house(11)",
        "filter(0, 0, 5, 5, 5, 5)", "sequence(0, 4, true, true)", "clock(1000)", "isSound()", "digest()"};

    private static int pairs;
    private static int wrong;

    private TwinsTest() {
    }

    public static void main(String[] args) {
        for (String[] written : WRITTEN) {
            isTornThenWritten(written);
            isOnlyTorn(written);
            for (String spared : SPARED) {
                isSpared(written, spared);
            }
        }
        if (wrong > 0) {
            System.exit(1);
        }
        System.out.println(pairs + " pairs of objects answer alike");
    }

    private static Calls made() {
        Calls calls = new Calls(new Mailroom());
        for (String call : MADE) {
            calls.answer(call);
        }
        return calls;
    }

    /** All calls, the last one of which is torn once. */
    private static void isTornThenWritten(String[] written) {
        Calls plain = made();
        Calls torn = made();
        List<String> answers = new ArrayList<>();
        for (String call : written) {
            answers.add(plain.answer(call));
        }
        for (int k = 0; k < written.length - 1; k++) {
            torn.answer(written[k]);
        }
        torn.answer("arm(true)");
        String last = written[written.length - 1];
        String tornAnswer = torn.answer(last);
        due(last + " torn", tornAnswer, last.startsWith("run") ? "torn" : "-9");
        String again = last.startsWith("clock") ? "clock(0)" : last;
        // what was typed is gone by that, and is typed anew
        for (int k = 0; k < written.length - 1 && last.startsWith("run"); k++) {
            torn.answer(written[k]);
        }
        due(last + " behind what was torn", torn.answer(again), answers.get(answers.size() - 1));
        alike(String.join(" ", written) + " torn and then written", plain, torn, "house(3) house(4)");
    }

    /** What is torn leaves all as it was, but what is typed, the CLOCK, the answer and what house() counts. */
    private static void isOnlyTorn(String[] written) {
        Calls plain = made();
        Calls torn = made();
        String last = written[written.length - 1];
        for (int k = 0; k < written.length - 1; k++) {
            torn.answer(written[k]);
            if (!last.startsWith("run")) {
                plain.answer(written[k]);
            }
        }
        torn.answer("arm(true)");
        torn.answer(last);
        alike(String.join(" ", written) + " torn", plain, torn, "house(0) house(3) house(4) answer(0) answer(1)");
    }

    /** The same calls, one of them with something ahead of all and behind each RECORD that leaves all as it is. */
    private static void isSpared(String[] written, String spared) {
        Calls plain = made();
        Calls other = made();
        other.answer(spared);
        for (String call : written) {
            String due = plain.answer(call);
            due(call + " behind " + spared, other.answer(call), due);
        }
        other.answer(spared);
        // the last answer of run() is another one, where that is called
        alike(String.join(" ", written) + " with " + spared, plain, other, spared.startsWith("run") ? "answer(0) answer(1)"
                : spared.equals("fall()") ? "house(4)" : spared.equals("image()") ? "house(2)"
                : spared.equals("knock()") ? "house(10)" : "");
    }

    private static void alike(String title, Calls one, Calls other, String but) {
        pairs++;
        for (String call : all(one)) {
            String due = one.answer(call);
            String got = other.answer(call);
            if (!but.contains(call)) {
                due(title + ": " + call, got, due);
            }
        }
    }

    private static void due(String title, String got, String due) {
        if (!got.equals(due)) {
            wrong++;
            System.out.println(title + " answered " + got + ", due is " + due);
        }
    }

    /** Each question, those first of which an answer might be left over from an earlier one. */
    private static List<String> all(Calls calls) {
        List<String> all = new ArrayList<>();
        for (int account = 0; account < 2; account++) {
            String of = "(" + account;
            for (int what = 10; what >= 0; what--) {
                all.add("ofAccount" + of + ", " + what + ")");
            }
            for (int id = 0; id <= 12; id++) {
                for (int what = 0; what <= 10; what++) {
                    all.add("ofMailbox" + of + ", " + id + ", " + Math.min(what, 9) + ")");
                    all.add("ofEmail" + of + ", " + id + ", " + what + ")");
                    all.add("ofSubmission" + of + ", " + id + ", " + Math.min(what, 3) + ")");
                }
                all.add("path" + of + ", " + id + ")");
                all.add("where" + of + ", " + id + ")");
                all.add("thread" + of + ", " + id + ")");
                all.add("emails" + of + ", " + id + ")");
            }
            for (String row : new String[] {"threads", "mailboxes", "blobs", "submissions", "answer"}) {
                all.add(row + of + ")");
            }
            for (int role = 0; role <= 5; role++) {
                all.add("inRole" + of + ", " + role + ")");
            }
            for (int type = 0; type < 4; type++) {
                all.add("state" + of + ", " + type + ")");
                for (int since = 0; since <= 12; since++) {
                    all.add("then" + of + ", " + type + ", " + since + ")");
                    all.add("changes" + of + ", " + type + ", " + since + ", 99)");
                    all.add("changes" + of + ", " + type + ", " + since + ", 2)");
                }
            }
            for (int query = 0; query < 4; query++) {
                all.add("askAt(" + query + ", " + account + ", 2, -1, 9)");
                all.add("ask(" + query + ", " + account + ", 0, 40)");
                all.add("total(" + query + ", " + account + ")");
                for (int since = 0; since <= 12; since++) {
                    all.add("queryChanges(" + query + ", " + account + ", " + since + ")");
                }
            }
        }
        for (int what = 0; what <= 10; what++) {
            all.add("house(" + what + ")");
        }
        return all;
    }
}
