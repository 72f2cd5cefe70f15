import java.util.ArrayList;
import java.util.Collections;
import java.util.List;
import java.util.Random;

/** Runs of many calls, by numbers from fixed seeds: each answer is to be the one of Model. */
public final class RandomRunsTest {
    private static final int CALLS = 512;
    /** Of so many runs one ends early, and all is asked then, in a mixed sequence. */
    private static final int ASKED_OUT = 20;
    private static final int LEAST = Integer.MIN_VALUE;
    private static final int MOST = Integer.MAX_VALUE;
    private static final String[] ASKED = {"ask", "askAt", "total", "queryChanges", "changes", "state", "then",
        "mailboxes", "ofMailbox", "path", "inRole", "emails", "ofEmail", "where", "threads", "thread", "blobs",
        "submissions", "ofSubmission", "ofAccount", "answer", "house", "isSound"};

    private final Random random;
    /** How far this run leans to ACCOUNT 0, to like MESSAGES, to tearing, to sending and so on. */
    private final int lean;
    private final List<String> done = new ArrayList<>();
    private Calls program;
    private Calls model;

    private RandomRunsTest(long seed) {
        random = new Random(seed);
        lean = random.nextInt(6);
    }

    public static void main(String[] args) {
        int runs = args.length > 0 ? Integer.parseInt(args[0]) : 600;
        long first = args.length > 1 ? Long.parseLong(args[1]) : 1;
        int wrong = 0;
        for (int run = 0; run < runs && wrong == 0; run++) {
            wrong += new RandomRunsTest(first + run).differs(first + run) ? 1 : 0;
        }
        if (wrong > 0) {
            System.exit(1);
        }
        System.out.println(runs + " random runs answer as the model does");
    }

    private boolean differs(long seed) {
        program = new Calls(new Mailroom());
        model = new Calls(new Model());
        boolean isAskedOut = seed % ASKED_OUT == 0;
        int calls = isAskedOut ? between(40, CALLS) : CALLS;
        boolean isOther = false;
        for (int k = 0; k < calls && !isOther; k++) {
            isOther = isOther(seed, k == CALLS - 1 || below(60) == 0 ? "digest()" : call());
        }
        if (isAskedOut && !isOther) {
            // more calls than promised, but what asks takes nothing, so what there is stays within it
            for (String call : all()) {
                isOther = isOther || isOther(seed, call);
            }
        }
        return isOther;
    }

    private boolean isOther(long seed, String call) {
        String got = program.answer(call);
        String due = model.answer(call);
        done.add(call + " = " + got);
        if (got.equals(due)) {
            return false;
        }
        done.forEach(System.out::println);
        System.out.println("seed " + seed + ": " + call + " answered " + got + ", due is " + due);
        return true;
    }

    /** All that can be asked of what there is, with what lies beside it; asking has to change nothing. */
    private List<String> all() {
        List<String> calls = new ArrayList<>();
        for (int account = 0; account < 2; account++) {
            for (String method : new String[] {"mailboxes", "threads", "blobs", "submissions", "answer"}) {
                calls.add(text(method, account));
            }
            things(calls, account);
            states(calls, account);
            for (int query = 0; query < 4; query++) {
                results(calls, query, account);
            }
        }
        for (int what = 0; what <= 10; what++) {
            calls.add(text("house", what));
        }
        calls.add("digest()");
        Collections.shuffle(calls, random);
        return calls;
    }

    private void things(List<String> calls, int account) {
        for (int id = -2; id <= 60; id++) {
            for (String method : new String[] {"path", "emails", "where", "thread"}) {
                calls.add(text(method, account, id));
            }
            for (int what = 0; what <= 10; what++) {
                calls.add(text("ofMailbox", account, id, what));
                calls.add(text("ofEmail", account, id, what));
                calls.add(text("ofSubmission", account, id, what));
                calls.add(text("ofAccount", account, what));
                calls.add(text("inRole", account, what));
            }
        }
    }

    private void states(List<String> calls, int account) {
        for (int type = 0; type < 4; type++) {
            int now = Integer.parseInt(model.answer(text("state", account, type)));
            calls.add(text("state", account, type));
            for (int since = now - 26; since <= now + 2; since++) {
                calls.add(text("then", account, type, since));
                for (int most : new int[] {1, 2, 3, 4, 5, 6, 7, 8, 10, 12, 15, 20, 30, 99}) {
                    calls.add(text("changes", account, type, since, most));
                }
                for (int query = 0; query < 4 && type == 1; query++) {
                    calls.add(text("queryChanges", query, account, since));
                }
            }
        }
    }

    private void results(List<String> calls, int query, int account) {
        int total = Integer.parseInt(model.answer(text("total", query, account)));
        calls.add(text("total", query, account));
        for (int many : new int[] {0, 1, 2, 40}) {
            for (int position = -total - 2; position <= total + 1; position++) {
                calls.add(text("ask", query, account, position, many));
            }
            calls.add(text("ask", query, account, LEAST, many));
            calls.add(text("ask", query, account, MOST, many));
            for (String email : model.answer(text("emails", account, -1)).concat(" e0 e-1 e575 e576").trim().split(" ")) {
                int anchor = Integer.parseInt(email.substring(1));
                for (int offset : new int[] {LEAST, -total, -2, -1, 0, 1, 2, total - 1, total, MOST}) {
                    calls.add(text("askAt", query, account, anchor, offset, many));
                }
            }
        }
    }

    private int below(int bound) {
        return random.nextInt(bound);
    }

    private int between(int least, int most) {
        return least + below(most - least + 1);
    }

    /** Mostly a number between two, now and then one beside them. */
    private int mostly(int least, int most) {
        int dice = below(150);
        return dice == 0 ? least - 1 : dice == 1 ? most + 1 : dice == 2 ? Integer.MIN_VALUE
                : dice == 3 ? Integer.MAX_VALUE : between(least, most);
    }

    private int account() {
        return below(200) == 0 ? (below(2) == 0 ? -1 : 2) : lean == 1 || below(3) > 0 ? 0 : 1;
    }

    /** Mostly an ID that is there, as a call like emails(0, -1) of the model tells. */
    private int there(String asked) {
        String row = model.answer(asked);
        if (row.isEmpty() || row.startsWith("throws") || below(12) == 0) {
            return mostly(0, 20);
        }
        String[] words = row.split(" ");
        return Integer.parseInt(words[below(words.length)].replaceAll(":.*", "").substring(1));
    }

    /** A name as a STEP has it: mostly an ID that is there, often what a STEP made. */
    private int name(String asked) {
        int dice = below(14);
        return dice < 4 ? -2 - below(8) : dice == 4 && below(8) == 0 ? mostly(-1, 0) : there(asked);
    }

    private int box(int account) {
        return name("mailboxes(" + account + ")");
    }

    private int mail(int account) {
        return name("emails(" + account + ", -1)");
    }

    private int blob(int account) {
        return there("blobs(" + account + ")");
    }

    private int submission(int account) {
        return name("submissions(" + account + ")");
    }

    /** Mostly a STATE that is known. */
    private int since(int account, int type) {
        String now = model.answer("state(" + account + ", " + type + ")");
        return now.startsWith("throws") || below(8) == 0 ? mostly(0, 60) : Integer.parseInt(now) - mostly(0, 24);
    }

    private String call() {
        if (lean == 5 && below(10) < 8) {
            return taking();
        }
        int dice = below(100);
        if (dice < 12) {
            int message = lean == 2 ? 4 : 12;
            return text("upload", account(), mostly(1, lean < 2 ? 99 : 12), mostly(0, 9), mostly(0, lean == 2 ? 1 : 3),
                    mostly(1, message), below(3) == 0 ? 0 : mostly(0, message));
        }
        if (dice < 56) {
            return step();
        }
        if (dice < 66) {
            return text("run", account());
        }
        if (dice < 73) {
            return other();
        }
        if (dice < 77) {
            return told();
        }
        return asked();
    }

    /** What takes many IDS in a few calls. */
    private String taking() {
        switch (below(12)) {
            case 0: return text("upload", 0, 1, between(0, 9), between(0, 3), between(1, 40), between(0, 40));
            case 1: return text("run", 0);
            case 2: return text("newMailbox", 0, between(0, 19), -1, 0, between(0, 9));
            case 3: return text("dropMailbox", 0, box(0)).replace(")", ", " + (below(3) == 0) + ")");
            case 4:
            case 5: return text("dropEmail", 0, mail(0));
            case 6:
            case 7: return text("submit", 0, mail(0), between(0, 2), between(0, 900));
            default: return text("newEmail", 0, blob(0), box(0), between(0, 63), between(0, 99));
        }
    }

    private String step() {
        int account = account();
        switch (below(lean == 3 ? 18 : 15)) {
            case 0:
            case 1:
                return text("newMailbox", account, mostly(0, below(3) == 0 ? 19 : 5), below(2) == 0 ? -1 : box(account),
                        below(2) == 0 ? 0 : mostly(0, 5), mostly(0, 9));
            case 2:
            case 15:
                return mailboxChange(account);
            case 3:
                return below(4) > 0 ? mailboxChange(account)
                        : text("dropMailbox", account, box(account)).replace(")", ", " + (below(2) == 0) + ")");
            case 4:
            case 5:
            case 6:
            case 13:
            case 14:
                return text("newEmail", account, blob(account), box(account), mostly(0, 63),
                        mostly(0, below(2) == 0 ? 5 : 9999));
            case 7:
            case 8:
                int what = mostly(0, 3);
                return text("changeEmail", account, mail(account), what, what < 2 ? mostly(0, 5) : box(account));
            case 9:
                return below(3) > 0 ? text("dropEmail", account, mail(account))
                        : text("changeEmail", account, mail(account), 3, box(account));
            case 10:
            case 11:
            case 16:
                return text("submit", account, mail(account), mostly(0, 2), mostly(0, below(4) == 0 ? 9999 : 300));
            case 17:
                return text("newEmail", account, blob(account), box(account), mostly(0, 3), mostly(0, 3));
            default:
                return text("undo", account, submission(account));
        }
    }

    private String mailboxChange(int account) {
        int what = mostly(0, 3);
        int value = what == 0 ? mostly(0, 19) : what == 1 ? (below(3) == 0 ? -1 : box(account))
                : what == 2 ? mostly(0, 5) : mostly(0, 9);
        return text("changeMailbox", account, box(account), what, value);
    }

    private String other() {
        switch (below(lean == 4 ? 16 : 14)) {
            case 0:
                return text("sweep", account());
            case 1:
                return text("quota", account(), below(3) == 0 ? mostly(1, 400) : mostly(1, 9999));
            case 2:
            case 3:
                int bound = account();
                int type = mostly(0, 3);
                return text("bind", bound, type, below(3) > 0 ? since(bound, type) : mostly(0, 12));
            case 4:
                return text("clear", account());
            case 5:
            case 6:
            case 7:
            case 8:
                return text("clock", below(3) == 0 ? mostly(0, 999) : mostly(0, 20));
            case 9:
            case 14:
            case 15:
                return "arm(" + (below(4) > 0) + ")";
            case 10:
                return below(3) == 0 ? "fall()" : text("quota", account(), mostly(1, 9999));
            case 11:
                return "image()";
            case 12:
                return "knock()";
            default:
                return text("run", account());
        }
    }

    private String told() {
        int query = mostly(0, 3);
        if (below(2) == 0) {
            return text("sequence", query, mostly(0, 3)).replace(")", ", " + (below(2) == 0) + ", " + (below(2) == 0) + ")");
        }
        return text("filter", query, below(2) == 0 ? -1 : mostly(1, 9), below(3) == 0 ? mostly(-1, 5) : -1,
                below(3) == 0 ? mostly(-1, 5) : -1, below(4) == 0 ? mostly(-1, 9) : -1, below(4) == 0 ? mostly(-1, 3) : -1);
    }

    private String asked() {
        String method = ASKED[below(ASKED.length)];
        int account = account();
        int type = mostly(0, 3);
        switch (method) {
            case "ask": return text(method, mostly(0, 3), account, mostly(-12, 12), mostly(0, 40));
            case "askAt": return text(method, mostly(0, 3), account, there("emails(" + account + ", -1)"),
                    mostly(-12, 12), mostly(0, 40));
            case "total": return text(method, mostly(0, 3), account);
            case "queryChanges": return text(method, mostly(0, 3), account, since(account, 1));
            case "changes": return text(method, account, type, since(account, type),
                    below(2) == 0 ? mostly(1, 99) : mostly(1, 9));
            case "then": return text(method, account, type, since(account, type));
            case "state": return text(method, account, type);
            case "ofMailbox": return text(method, account, there("mailboxes(" + account + ")"), mostly(0, 9));
            case "path":
            case "emails": return text(method, account, below(9) == 0 ? -1 : there("mailboxes(" + account + ")"));
            case "inRole": return text(method, account, mostly(0, 5));
            case "ofEmail": return text(method, account, there("emails(" + account + ", -1)"), mostly(0, 10));
            case "where": return text(method, account, there("emails(" + account + ", -1)"));
            case "thread": return text(method, account, there("threads(" + account + ")"));
            case "ofSubmission": return text(method, account, there("submissions(" + account + ")"), mostly(0, 3));
            case "ofAccount": return text(method, account, mostly(0, 10));
            case "house": return text(method, mostly(0, 10));
            case "isSound": return "isSound()";
            default: return text(method, account);
        }
    }

    private static String text(String method, int... numbers) {
        StringBuilder call = new StringBuilder(method).append('(');
        for (int k = 0; k < numbers.length; k++) {
            call.append(k == 0 ? "" : ", ").append(numbers[k]);
        }
        return call.append(')').toString();
    }
}
