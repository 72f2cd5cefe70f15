import java.lang.reflect.Field;

/** isSound() tells when something is not so: each run spoils one thing inside an object that is sound. */
public final class SoundTest {
    private static final String[] MADE = {"upload(0, 5, 0, 0, 1, 0)", "upload(0, 5, 0, 1, 1, 0)",
        "upload(0, 5, 0, 1, 1, 0)",
        "newMailbox(0, 0, -1, 1, 0)", "newMailbox(0, 1, -2, 0, 0)", "newMailbox(0, 0, -3, 2, 0)",
        "newMailbox(0, 3, -1, 3, 0)", "newEmail(0, 1, -2, 0, 7)", "newEmail(0, 2, -2, 0, 8)", "run(0)",
        "changeEmail(0, 1, 2, 2)", "newEmail(0, 1, 2, 0, 9)", "submit(0, 1, 2, 50)", "run(0)"};
    private static int wrong;

    private SoundTest() {
    }

    public static void main(String[] args) throws ReflectiveOperationException {
        spoilt("nothing", "1", "mailboxes", 0, 3, 0);
        spoilt("EMAILS in it", "0", "mailboxes", 0, 4, 9);
        spoilt("UNREAD ones", "0", "mailboxes", 0, 5, 9);
        spoilt("THREADS", "0", "mailboxes", 0, 6, 9);
        spoilt("THREADS with an UNREAD one", "0", "mailboxes", 0, 7, 9);
        spoilt("a NAME twice", "0", "mailboxes", 3, 0, 0);
        spoilt("a ROLE twice", "0", "mailboxes", 3, 2, 1);
        spoilt("a PARENT that is not there", "0", "mailboxes", 3, 1, 77);
        spoilt("a ring", "0", "mailboxes", 0, 1, 3);
        spoilt("DEPTH 4", "0", "mailboxes", 3, 1, 3);
        spoilt("a MAILBOX of an EMAIL that is not there", "0", "emails", 0, 10, 77);
        spoilt("an EMAIL in no MAILBOX", "0", "emails", 2, 3, 0);
        spoilt("a BLOB that is not there", "0", "emails", 0, 0, 77);
        spoilt("a THREAD that was not told", "0", "emails", 1, 4, 9);
        spoilt("a SUBMISSION other than in the LOG", "0", "submissions", 0, 3, 1);
        spoilt("a BLOB other than in the LOG", "0", "blobs", 1, 1, 1);
        spoiltPast();
        spoiltSize("size", -1);
        spoiltSize("next", 1);
        spoiltState("mailboxStates");
        spoiltState("emailStates");
        spoiltState("threadStates");
        spoiltState("submissionStates");
        if (wrong > 0) {
            System.exit(1);
        }
        System.out.println("isSound() tells what is not so");
    }

    private static Object get(Object of, String field) throws ReflectiveOperationException {
        Field found = of.getClass().getDeclaredField(field);
        found.setAccessible(true);
        return found.get(of);
    }

    private static Mailroom made() {
        Mailroom room = new Mailroom();
        Calls calls = new Calls(room);
        for (String call : MADE) {
            calls.answer(call);
        }
        due("when it is made", "1", room);
        return room;
    }

    private static void due(String title, String due, Mailroom room) {
        String got = room.isSound() ? "1" : "0";
        if (!got.equals(due)) {
            wrong++;
            System.out.println(title + ": isSound() answered " + got + ", due is " + due);
        }
    }

    /** The cell of a table, both in what there is and, but for "than in the LOG", in the LOG. */
    private static void spoilt(String title, String due, String table, int row, int column, int value)
            throws ReflectiveOperationException {
        Mailroom room = made();
        Object account = get(room, "first");
        for (String holdings : title.endsWith("LOG") ? new String[] {"live"} : new String[] {"live", "logged"}) {
            Object its = get(get(account, holdings), table);
            int wide = (Integer) get(its, "wide");
            ((int[]) get(its, "cells"))[row * wide + column] = value;
        }
        due(title, due, room);
    }

    /** Another sequence then than now, which no call can make; one QUERY alone has these EMAILS. */
    private static void spoiltPast() throws ReflectiveOperationException {
        for (int seeing = 0; seeing < 4; seeing++) {
            Mailroom room = made();
            for (int query = 0; query < 4; query++) {
                room.filter(query, query == seeing ? -1 : 99, -1, -1, -1, -1);
            }
            Object table = ((Object[]) get(get(room, "first"), "emailsThen"))[1];
            ((int[]) get(table, "cells"))[1] = 99;
            due("a sequence of then by query " + seeing, "0", room);
        }
    }

    /** What there is has one thing less, or another ID that comes next, than the LOG. */
    private static void spoiltSize(String field, int by) throws ReflectiveOperationException {
        Mailroom room = made();
        Object table = get(get(get(room, "first"), "live"), "blobs");
        Field its = table.getClass().getDeclaredField(field);
        its.setAccessible(true);
        its.setInt(table, its.getInt(table) + by);
        due(field + " of BLOBS", "0", room);
    }

    private static void spoiltState(String history) throws ReflectiveOperationException {
        Mailroom room = made();
        long[][] there = (long[][]) get(get(get(room, "first"), history), "thereAt");
        there[1][0] ^= 2;
        due("what was there by " + history, "0", room);
        room = made();
        long[][] came = (long[][]) get(get(get(room, "first"), history), "cameAt");
        came[1][0] ^= 2;
        due("what came by " + history, "0", room);
    }
}
