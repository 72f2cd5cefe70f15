import java.lang.reflect.Field;
import java.lang.reflect.Method;

/** isSound() tells when something is not so: each run spoils one thing inside an object that is sound. */
public final class SoundTest {
    private static final String[] MADE = {"upload(0, 5, 0, 0, 1, 0)", "upload(0, 5, 0, 1, 1, 0)",
        "upload(0, 5, 0, 1, 1, 0)",
        "newMailbox(0, 0, -1, 1, 0)", "newMailbox(0, 1, -2, 0, 0)", "newMailbox(0, 0, -3, 2, 0)",
        "newMailbox(0, 3, -1, 3, 0)", "newEmail(0, 1, -2, 0, 7)", "newEmail(0, 2, -2, 0, 8)", "run(0)",
        "changeEmail(0, 1, 2, 2)", "newEmail(0, 1, 2, 0, 9)", "submit(0, 1, 2, 50)", "run(0)"};
    private static int wrong;

    private SoundTest() {
    }

    public static void main(String[] args) throws ReflectiveOperationException {
        spoilt("nothing", "1", "mailboxes", 0, 3, 0);
        spoilt("EMAILS in it", "0", "mailboxes", 0, 4, 9);
        spoilt("UNREAD ones", "0", "mailboxes", 0, 5, 9);
        spoilt("THREADS", "0", "mailboxes", 0, 6, 9);
        spoilt("THREADS with an UNREAD one", "0", "mailboxes", 0, 7, 9);
        spoilt("a NAME twice", "0", "mailboxes", 3, 0, 0);
        spoilt("a ROLE twice", "0", "mailboxes", 3, 2, 1);
        spoilt("a PARENT that is not there", "0", "mailboxes", 3, 1, 77);
        spoilt("a ring", "0", "mailboxes", 0, 1, 3);
        spoilt("DEPTH 4", "0", "mailboxes", 3, 1, 3);
        spoilt("a PARENT that is not there, of the first one", "0", "mailboxes", 0, 1, 77);
        spoilt("a MAILBOX of an EMAIL that is not there", "0", "emails", 0, 10, 77);
        spoilt("an EMAIL in no MAILBOX", "0", "emails", 2, 3, 0);
        spoilt("a BLOB that is not there", "0", "emails", 0, 0, 77);
        spoiltAlone("nothing", "1", 0, 2, 0);
        spoiltAlone("the first MAILBOX of the first EMAIL not there", "0", 0, 10, 77);
        spoiltAlone("the second MAILBOX of an EMAIL not there", "0", 0, 11, 77);
        spoiltAlone("the MAILBOX of the last EMAIL not there", "0", 2, 10, 77);
        spoiltAlone("an EMAIL in no MAILBOX", "0", 1, 3, 0);
        spoiltAlone("the BLOB of the last EMAIL not there", "0", 2, 0, 77);
        spoilt("a THREAD that was not told", "0", "emails", 1, 4, 9);
        spoilt("a SUBMISSION other than in the LOG", "0", "submissions", 0, 3, 1);
        spoilt("a BLOB other than in the LOG", "0", "blobs", 1, 1, 1);
        spoiltPast();
        spoiltOldest();
        spoiltDigest();
        spoiltOnlyOne();
        spoiltSize("size", -1);
        spoiltSize("next", 1);
        spoiltState("mailboxStates");
        spoiltState("emailStates");
        spoiltState("threadStates");
        spoiltState("submissionStates");
        if (wrong > 0) {
            System.exit(1);
        }
        System.out.println("isSound() tells what is not so");
    }

    private static Object get(Object of, String field) throws ReflectiveOperationException {
        Field found = of.getClass().getDeclaredField(field);
        found.setAccessible(true);
        return found.get(of);
    }

    private static Mailroom made() {
        Mailroom room = new Mailroom();
        Calls calls = new Calls(room);
        for (String call : MADE) {
            calls.answer(call);
        }
        due("when it is made", "1", room);
        return room;
    }

    private static void due(String title, String due, Mailroom room) {
        String got = room.isSound() ? "1" : "0";
        if (!got.equals(due)) {
            wrong++;
            System.out.println(title + ": isSound() answered " + got + ", due is " + due);
        }
    }

    /** The cell of a table, both in what there is and, but for "than in the LOG", in the LOG. */
    private static void spoilt(String title, String due, String table, int row, int column, int value)
            throws ReflectiveOperationException {
        Mailroom room = made();
        Object account = get(room, "first");
        for (String holdings : title.endsWith("LOG") ? new String[] {"live"} : new String[] {"live", "logged"}) {
            Object its = get(get(account, holdings), table);
            int wide = (Integer) get(its, "wide");
            ((int[]) get(its, "cells"))[row * wide + column] = value;
        }
        due(title, due, room);
    }

    /** The cell of an EMAIL, with COUNTS that are right for it, so that it alone is not so. */
    private static void spoiltAlone(String title, String due, int row, int column, int value)
            throws ReflectiveOperationException {
        Mailroom room = made();
        Object account = get(room, "first");
        Object live = get(account, "live");
        Object emails = get(live, "emails");
        ((int[]) get(emails, "cells"))[row * (Integer) get(emails, "wide") + column] = value;
        call(live, "recount");
        Method copy = live.getClass().getDeclaredMethod("copy", live.getClass());
        copy.setAccessible(true);
        copy.invoke(get(account, "logged"), live);
        due(title + ", all else right", due, room);
    }

    private static void call(Object of, String method) throws ReflectiveOperationException {
        Method found = of.getClass().getDeclaredMethod(method);
        found.setAccessible(true);
        found.invoke(of);
    }

    /** What was there at the STATE of now, and at the oldest one that is known. */
    private static void spoiltOldest() throws ReflectiveOperationException {
        for (int behind = 0; behind <= 23; behind += 23) {
            Mailroom room = made();
            for (int round = 0; round < 40; round++) {
                room.changeMailbox(0, 1, 3, round % 2);
                room.changeEmail(0, 1, round % 2, 5);
                room.run(0);
            }
            due("with many STATES", "1", room);
            Object account = get(room, "first");
            Object history = get(account, "mailboxStates");
            int slot = ((Integer) get(history, "state") - behind) % 24;
            ((long[][]) get(history, "thereAt"))[slot][0] ^= 64;
            due("STATE " + behind + " below that of now", "0", room);
            ((long[][]) get(history, "thereAt"))[slot][0] ^= 64;
            due("as it was", "1", room);
            slot = ((Integer) get(get(account, "emailStates"), "state") - behind) % 24;
            // IDS of then in another sequence
            int[] ids = (int[]) get(((Object[]) get(account, "emailsThen"))[slot], "ids");
            ids[0] = 2;
            ids[1] = 1;
            due("EMAILS of the STATE " + behind + " below that of now", "0", room);
        }
    }

    /** The PARENT of the one MAILBOX that there is. */
    private static void spoiltOnlyOne() throws ReflectiveOperationException {
        Mailroom room = new Mailroom();
        room.newMailbox(1, 0, -1, 0, 0);
        room.run(1);
        due("one MAILBOX", "1", room);
        for (String holdings : new String[] {"live", "logged"}) {
            ((int[]) get(get(get(get(room, "second"), holdings), "mailboxes"), "cells"))[1] = 77;
        }
        due("one MAILBOX with a PARENT that is not there", "0", room);
    }

    /** The last of a digest is 1 or 0 as it is sound or not. */
    private static void spoiltDigest() throws ReflectiveOperationException {
        Mailroom room = made();
        long sound = room.digest();
        Object blobs = get(get(get(room, "first"), "logged"), "blobs");
        ((int[]) get(blobs, "cells"))[0]++;
        due("a BLOB other in the LOG", "0", room);
        if (room.digest() != sound - 1) {
            wrong++;
            System.out.println("digest() of what is not sound answered " + room.digest() + ", due is " + (sound - 1));
        }
    }

    /** Another sequence then than now, which no call can make; one QUERY alone has these EMAILS. */
    private static void spoiltPast() throws ReflectiveOperationException {
        for (int seeing = 0; seeing < 4; seeing++) {
            Mailroom room = made();
            for (int query = 0; query < 4; query++) {
                room.filter(query, query == seeing ? -1 : 99, -1, -1, -1, -1);
            }
            Object table = ((Object[]) get(get(room, "first"), "emailsThen"))[1];
            ((int[]) get(table, "cells"))[1] = 99;
            due("a sequence of then by query " + seeing, "0", room);
        }
    }

    /** What there is has one thing less, or another ID that comes next, than the LOG. */
    private static void spoiltSize(String field, int by) throws ReflectiveOperationException {
        Mailroom room = made();
        Object table = get(get(get(room, "first"), "live"), "blobs");
        Field its = table.getClass().getDeclaredField(field);
        its.setAccessible(true);
        its.setInt(table, its.getInt(table) + by);
        due(field + " of BLOBS", "0", room);
    }

    private static void spoiltState(String history) throws ReflectiveOperationException {
        Mailroom room = made();
        long[][] there = (long[][]) get(get(get(room, "first"), history), "thereAt");
        there[1][0] ^= 2;
        due("what was there by " + history, "0", room);
        room = made();
        long[][] came = (long[][]) get(get(get(room, "first"), history), "cameAt");
        came[1][0] ^= 2;
        due("what came by " + history, "0", room);
    }
}
