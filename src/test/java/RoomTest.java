import java.lang.management.ManagementFactory;
import java.util.Random;

/** What a run makes, in bytes, and that no later call than the 512th makes the machine throw. */
public final class RoomTest {
    private static final int CALLS = 512;
    /** Far below 600,000 objects and 7.3 million elements of four bytes. */
    private static final long MOST_BYTES = 5_000_000;

    private RoomTest() {
    }

    public static void main(String[] args) {
        boolean isRight = isSmall("digests", run(0)) & isSmall("submissions", run(1)) & isSmall("requests", run(2))
                & isSmall("blobs", run(3)) & isSmall("new object", run(4));
        for (int seed = 0; seed < 40; seed++) {
            isRight &= isCalm(seed);
        }
        isRight &= isFullStillCalm();
        if (!isRight) {
            System.exit(1);
        }
    }

    private static boolean isSmall(String title, long bytes) {
        System.out.println("a run of " + title + " makes " + bytes + " bytes");
        return bytes <= MOST_BYTES;
    }

    private static long run(int kind) {
        run(new Mailroom(), kind);
        com.sun.management.ThreadMXBean bean = (com.sun.management.ThreadMXBean) ManagementFactory.getThreadMXBean();
        long before = bean.getThreadAllocatedBytes(Thread.currentThread().getId());
        run(new Mailroom(), kind);
        return bean.getThreadAllocatedBytes(Thread.currentThread().getId()) - before;
    }

    private static void run(Mailroom x, int kind) {
        if (kind == 4) {
            return;
        }
        x.quota(0, 9999);
        x.newMailbox(0, 0, -1, 1, 0);
        x.newMailbox(0, 1, -1, 3, 0);
        x.upload(0, 1, 0, 0, 1, 0);
        x.newEmail(0, 1, -2, 0, 0);
        x.run(0);
        for (int call = 6; call < CALLS; call++) {
            if (call < CALLS / 2) {
                fill(x, call);
            } else if (kind == 0) {
                x.digest();
            } else if (kind == 1) {
                x.submissions(0);
            } else if (kind == 2) {
                x.changeEmail(0, 1, call % 2, 0);
                x.run(0);
                call++;
            } else {
                x.blobs(0);
            }
        }
    }

    private static void fill(Mailroom x, int call) {
        switch (call % 10) {
            case 0:
            case 1:
                x.submit(0, 1, 0, call);
                break;
            case 2:
            case 3:
                x.submit(0, 1, 2, 9999);
                break;
            case 4:
                x.clock(10);
                break;
            case 5:
            case 6:
                x.newEmail(0, 1, 1, call % 64, call);
                break;
            case 7:
                x.run(0);
                break;
            default:
                x.upload(0, 1, 0, 0, 1, 0);
                break;
        }
    }

    /** Many more calls than promised: answers are free then, but only the document's exceptions may come. */
    private static boolean isCalm(int seed) {
        Random random = new Random(seed);
        Calls calls = new Calls(new Mailroom());
        String[] mailbox = {"newMailbox(0, %d, -1, %d, 0)", "changeMailbox(0, %d, %d, 1)", "dropMailbox(0, %d, true)"};
        String[] other = {"upload(0, 1, %d, %d, 1, 0)", "newEmail(0, %d, %d, 0, 0)", "submit(0, %d, %d, 0)",
            "changeEmail(0, %d, %d, 1)", "undo(0, %d)", "dropEmail(0, %d)", "clock(999)", "run(0)", "run(0)", "sweep(0)",
            "digest()", "changes(0, 1, %d, 99)", "thread(0, %d)", "askAt(0, 0, %d, %d, 40)", "quota(0, 9999)"};
        for (int call = 0; call < 6000; call++) {
            String pattern = random.nextInt(6) == 0 ? mailbox[random.nextInt(3)] : other[random.nextInt(other.length)];
            int most = call > 3000 ? 700 : 9;
            String text = String.format(pattern, random.nextInt(most), random.nextInt(6));
            if (pattern.equals("digest()") && call % 20 > 0) {
                continue;
            }
            String answer = calls.answer(text);
            if (isMachines(answer)) {
                System.out.println("call " + call + ": " + text + " answered " + answer);
                return false;
            }
        }
        return true;
    }

    private static boolean isMachines(String answer) {
        return answer.startsWith("throws.") && !answer.equals("throws.IndexOutOfBoundsException")
                && !answer.equals("throws.IllegalArgumentException") && !answer.equals("throws.IllegalStateException");
    }

    private static boolean isFullStillCalm() {
        Calls calls = new Calls(new Mailroom());
        String[] texts = {"quota(0, 9999)", "newMailbox(0, 0, -1, 1, 0)", "newMailbox(0, 1, -1, 2, 0)", "run(0)"};
        boolean isRight = true;
        for (String text : texts) {
            calls.answer(text);
        }
        for (int k = 0; k < 700; k++) {
            String[] round = {"upload(0, 1, 0, 0, 1, 0)", "newEmail(0, 1, 1, 0, 0)", "submit(0, -2, 0, 0)",
                "dropEmail(0, -2)", "newMailbox(0, 5, -1, 0, 0)", "dropMailbox(0, -6, true)", "run(0)", "clock(1)"};
            for (String text : round) {
                String answer = calls.answer(text);
                isRight &= !isMachines(answer);
            }
        }
        String digest = calls.answer("digest()");
        String sound = calls.answer("isSound()");
        if (!isRight || isMachines(digest) || !sound.equals("1")) {
            System.out.println("full: " + isRight + " " + digest + " " + sound);
            return false;
        }
        return true;
    }
}
