import java.util.ArrayList;
import java.util.List;

/**
 * Each number that a call is told, on both sides: the last one that is let and the first one that is not; which of
 * several exceptions is thrown; and that nothing changes then.
 */
public final class RangesTest {
    private static final String I = "throws.IndexOutOfBoundsException";
    private static final String A = "throws.IllegalArgumentException";
    private static final String S = "throws.IllegalStateException";
    private static final int LEAST = Integer.MIN_VALUE;
    private static final int MOST = Integer.MAX_VALUE;

    /** STEPS, and of each number what it can be: "=" is ahead of one that stays as it is here. */
    private static final String[] STEPS = {
        "newMailbox(account, 0..19, parent, 0..5, 0..9)",
        "changeMailbox(account, thing, 0..3, =5)",
        "changeMailbox(account, thing, =0, 0..19)",
        "changeMailbox(account, thing, =1, parent)",
        "changeMailbox(account, thing, =2, 0..5)",
        "changeMailbox(account, thing, =3, 0..9)",
        "dropMailbox(account, thing, flag)",
        "newEmail(account, 1..2147483647, thing, 0..63, 0..9999)",
        "changeEmail(account, thing, 0..3, =5)",
        "changeEmail(account, thing, =0, 0..5)",
        "changeEmail(account, thing, =1, 0..5)",
        "changeEmail(account, thing, =2, thing)",
        "changeEmail(account, thing, =3, thing)",
        "dropEmail(account, thing)",
        "submit(account, thing, 0..2, 0..9999)",
        "undo(account, thing)",
    };

    private static final String[] OTHERS = {
        "upload(account, 1..99, 0..9, 0..9, 1..99, 0..99)",
        "sweep(account)",
        "quota(account, 1..9999)",
        "bind(account, 0..3, 0..2147483647)",
        "clear(account)",
        "run(account)",
        "clock(0..999)",
        "arm(flag)",
        "filter(query, mailbox, -1..5, -1..5, -1..9, -1..9)",
        "sequence(query, 0..3, flag, flag)",
        "ask(query, account, any, 0..40)",
        "askAt(query, account, any, any, 0..40)",
        "total(query, account)",
        "queryChanges(query, account, any)",
        "changes(account, 0..3, any, 1..99)",
        "state(account, 0..3)",
        "then(account, 0..3, any)",
        "mailboxes(account)",
        "ofMailbox(account, any, 0..9)",
        "path(account, any)",
        "inRole(account, 0..5)",
        "emails(account, any)",
        "ofEmail(account, any, 0..10)",
        "where(account, any)",
        "threads(account)",
        "thread(account, any)",
        "blobs(account)",
        "submissions(account)",
        "ofSubmission(account, any, 0..3)",
        "ofAccount(account, 0..10)",
        "answer(account)",
        "house(0..10)",
    };

    private static int cases;
    private static int wrong;

    private RangesTest() {
    }

    public static void main(String[] args) {
        for (String method : STEPS) {
            for (int size : new int[] {0, 1, 2, 7, 8}) {
                look(method, size, true);
            }
        }
        for (String method : OTHERS) {
            look(method, 0, false);
            look(method, 8, false);
        }
        if (wrong > 0) {
            System.out.println(wrong + " answers are not as due");
            System.exit(1);
        }
        System.out.println(cases + " calls at the edges of what is let are as due");
    }

    /** All calls of a method that are let, each with one number at an edge, and all with one or two that are not. */
    private static void look(String method, int size, boolean isStep) {
        String name = method.substring(0, method.indexOf('('));
        String inside = method.substring(method.indexOf('(') + 1, method.length() - 1);
        String[] kinds = inside.split(", ");
        String[] plain = new String[kinds.length];
        for (int k = 0; k < kinds.length; k++) {
            plain[k] = let(kinds[k], size).get(0);
        }
        String due = isStep ? size == 8 ? S : "" + size : "let";
        for (int k = 0; k < kinds.length; k++) {
            for (String value : let(kinds[k], size)) {
                due(call(name, with(plain, k, value)), size, due);
            }
            for (String value : refused(kinds[k], size)) {
                due(call(name, with(plain, k, value)), size, thrown(kinds[k]));
                for (int other = k + 1; other < kinds.length; other++) {
                    for (String second : refused(kinds[other], size)) {
                        boolean isIndex = thrown(kinds[k]).equals(I) || thrown(kinds[other]).equals(I);
                        due(call(name, with(with(plain, k, value), other, second)), size, isIndex ? I : A);
                    }
                }
            }
        }
    }

    private static List<String> let(String kind, int size) {
        switch (kind) {
            case "account": return texts(0, 1);
            case "query": return texts(0, 1, 2, 3);
            case "mailbox": return texts(-1, 1, MOST);
            case "any": return texts(0, -1, 1, LEAST, MOST);
            case "flag": return List.of("false", "true");
            case "thing": return size == 0 ? texts(1, MOST) : texts(1, MOST, -2, -1 - size);
            case "parent": return size == 0 ? texts(-1, 1, MOST) : texts(-1, 1, MOST, -2, -1 - size);
            default: return kind.startsWith("=") ? List.of(kind.substring(1)) : texts(least(kind), most(kind));
        }
    }

    private static List<String> refused(String kind, int size) {
        switch (kind) {
            case "account": return texts(-1, 2, LEAST, MOST);
            case "query": return texts(-1, 4, LEAST, MOST);
            case "mailbox": return texts(0, -2, LEAST);
            case "any":
            case "flag": return List.of();
            case "thing": return texts(0, -1, -2 - size, LEAST);
            case "parent": return texts(0, -2 - size, LEAST);
            default: break;
        }
        List<String> refused = new ArrayList<>();
        if (!kind.startsWith("=")) {
            refused.addAll(texts(least(kind) - 1, LEAST));
            if (most(kind) < MOST) {
                refused.addAll(texts(most(kind) + 1, MOST));
            }
        }
        return refused;
    }

    private static int least(String kind) {
        return Integer.parseInt(kind.substring(0, kind.indexOf("..")));
    }

    private static int most(String kind) {
        return Integer.parseInt(kind.substring(kind.indexOf("..") + 2));
    }

    private static List<String> texts(int... numbers) {
        List<String> texts = new ArrayList<>();
        for (int number : numbers) {
            texts.add(Integer.toString(number));
        }
        return texts;
    }

    private static String thrown(String kind) {
        return kind.equals("account") || kind.equals("query") ? I : A;
    }

    private static String[] with(String[] plain, int place, String value) {
        String[] words = plain.clone();
        words[place] = value;
        return words;
    }

    private static String call(String name, String[] words) {
        return name + "(" + String.join(", ", words) + ")";
    }

    /** Makes the call on a new object of which each REQUEST has so many STEPS. */
    private static void due(String call, int size, String due) {
        cases++;
        Calls calls = new Calls(new Mailroom());
        for (int step = 0; step < size; step++) {
            calls.answer("dropEmail(0, 1)");
            calls.answer("dropEmail(1, 1)");
        }
        String before = calls.answer("digest()");
        String got = calls.answer(call);
        boolean isThrown = got.startsWith("throws.");
        boolean isRight = due.equals("let") ? !isThrown : got.equals(due);
        if (isThrown) {
            isRight &= calls.answer("digest()").equals(before);
        }
        if (!isRight) {
            wrong++;
            System.out.println("behind " + size + " steps: " + call + " answered " + got + ", due is " + due);
        }
    }
}
