/** Sentences about blobs, quotas, the LOG and its IMAGE, and about knocking. */
final class BoundsOfTheStore {
    private BoundsOfTheStore() {
    }

    static void all() {
        uploads();
        sweeps();
        quotas();
        armed();
        falls();
        images();
        knocks();
    }

    private static void uploads() {
        Runs.run("a BLOB comes (that is written to the LOG at once); -9 if that was torn", """
            upload(0, 1, 0, 0, 1, 0) = 1
            house(2) = 1
            fall() = 1
            blobs(0) = b1
            newMailbox(0, 0, -1, 0, 0) = 0
            bind(0, 0, 0) = 0
            upload(0, 1, 0, 0, 1, 0) = 2
            ofAccount(0, 0) = 1
            ofAccount(0, 1) = 0
            arm(true) = 0
            upload(1, 1, 0, 0, 1, 0) = -9
            blobs(1) =
            house(1) = 0
            house(2) = 2
            house(3) = 1
            house(4) = 2
            ofAccount(0, 0) = 0
            ofAccount(0, 1) = -1
            upload(1, 1, 0, 0, 1, 0) = 1
            house(2) = 3
            """);
        Runs.run("exceptions go ahead of -9: what is armed stays so", """
            arm(true) = 0
            upload(2, 1, 0, 0, 1, 0) = I
            upload(0, 0, 0, 0, 1, 0) = A
            sweep(2) = I
            quota(2, 5) = I
            quota(0, 0) = A
            clock(1000) = A
            run(2) = I
            house(1) = 1
            house(3) = 0
            quota(0, 5) = -9
            house(1) = 0
            """);
    }

    private static void sweeps() {
        Runs.run("all BLOBS go that no EMAIL has: none, one, all; without any, nothing is written", """
            sweep(0) = 0
            house(2) = 0
            upload(0, 1, 0, 0, 1, 0) = 1
            upload(0, 1, 0, 0, 1, 0) = 2
            upload(1, 1, 0, 0, 1, 0) = 1
            newMailbox(0, 0, -1, 0, 0) = 0
            newEmail(0, 1, -2, 0, 0) = 1
            newEmail(0, 1, -2, 0, 0) = 2
            newEmail(0, 2, -2, 0, 0) = 3
            run(0) = m1 e1 e2 e3
            house(2) = 4
            arm(true) = 0
            sweep(0) = 0
            house(1) = 1
            house(2) = 4
            arm(false) = 1
            dropEmail(0, 1) = 0
            run(0) = ok
            sweep(0) = 0
            dropEmail(0, 2) = 0
            submit(0, 3, 2, 5) = 1
            dropEmail(0, 3) = 2
            run(0) = ok s1 ok
            arm(true) = 0
            newMailbox(1, 5, -1, 0, 0) = 0
            sweep(0) = -9
            ofAccount(1, 0) = 0
            blobs(0) = b1 b2
            house(3) = 1
            sweep(0) = 2
            blobs(0) =
            blobs(1) = b1
            house(2) = 7
            sweep(0) = 0
            house(2) = 7
            sweep(1) = 1
            """);
    }

    private static void quotas() {
        Runs.run("tells a QUOTA: also the same is written; what it was", """
            quota(0, 400) = 400
            house(2) = 1
            quota(0, 1) = 400
            quota(0, 9999) = 1
            quota(1, 1) = 400
            house(2) = 4
            fall() = 4
            ofAccount(0, 4) = 9999
            ofAccount(1, 4) = 1
            arm(true) = 0
            newMailbox(1, 5, -1, 0, 0) = 0
            quota(1, 1) = -9
            ofAccount(1, 0) = 0
            house(2) = 4
            house(3) = 1
            arm(true) = 0
            quota(0, 5) = -9
            quota(0, 6) = 9999
            """);
    }

    private static void armed() {
        Runs.run("arm: 1 if it was so, otherwise 0; behind what is torn, and behind a fall, it is not", """
            arm(false) = 0
            arm(true) = 0
            arm(true) = 1
            arm(false) = 1
            arm(false) = 0
            upload(0, 1, 0, 0, 1, 0) = 1
            arm(true) = 0
            knock() = 1
            filter(0, 1, -1, -1, -1, -1) = 1
            sequence(0, 1, true, true) = 0
            clock(5) = 0
            image() = 1
            sweep(1) = 0
            run(0) =
            clear(0) = 0
            ask(0, 0, 0, 40) =
            isSound() = 1
            arm(true) = 1
            upload(0, 1, 0, 0, 1, 0) = -9
            arm(true) = 0
            fall() = 0
            arm(false) = 0
            upload(0, 1, 0, 0, 1, 0) = 2
            """);
    }

    private static void falls() {
        Runs.run("fall: all else stays, STATES that are known, QUERIES and the CLOCK, too", """
            fall() = 0
            house(4) = 1
            house(3) = 0
            upload(0, 1, 0, 0, 1, 0) = 1
            newMailbox(0, 0, -1, 0, 0) = 0
            newEmail(0, 1, -2, 0, 0) = 1
            newEmail(0, 1, -2, 1, 1) = 2
            submit(0, -3, 2, 7) = 3
            submit(0, -3, 2, 9) = 4
            run(0) = m1 e1 e2 s1 s2
            changeEmail(0, 1, 0, 0) = 0
            run(0) = ok
            clock(7) = 1
            filter(0, 1, 0, -1, -1, -1) = 2
            sequence(0, 0, true, false) = 0
            knock() = 1
            quota(0, 77) = 400
            dropEmail(0, 1) = 0
            bind(0, 1, 9) = 2
            dropEmail(1, 1) = 0
            bind(1, 1, 9) = 0
            arm(true) = 0
            fall() = 5
            ofAccount(0, 0) = 0
            ofAccount(0, 1) = -1
            ofAccount(0, 2) = -1
            ofAccount(1, 0) = 0
            ofAccount(1, 1) = -1
            ofAccount(1, 2) = -1
            house(0) = 7
            house(1) = 0
            house(2) = 5
            house(3) = 0
            house(4) = 2
            house(5) = 2
            house(7) = 1
            house(10) = 1
            answer(0) = ok
            ofAccount(0, 4) = 77
            emails(0, -1) = e1 e2
            submissions(0) = s1:1 s2:0
            state(0, 1) = 2
            changes(0, 1, 1, 9) = 2 ~e1
            then(0, 1, 1) = e1 e2
            queryChanges(0, 0, 1) = 1:e1
            queryChanges(0, 0, 0) = 0:e2 1:e1
            ask(0, 0, 0, 40) = e2 e1
            sequence(0, 0, false, false) = 0
            clock(2) = 1
            """);
    }

    private static void images() {
        Runs.run("image: all that there is becomes the IMAGE; the LOG has no RECORD behind it", """
            image() = 0
            upload(0, 1, 0, 0, 1, 0) = 1
            quota(0, 5) = 400
            newMailbox(0, 0, -1, 0, 0) = 0
            arm(true) = 0
            image() = 2
            house(1) = 1
            house(2) = 0
            house(4) = 0
            ofAccount(0, 0) = 1
            image() = 0
            run(0) = torn
            house(2) = 0
            fall() = 0
            blobs(0) = b1
            ofAccount(0, 4) = 5
            newMailbox(0, 0, -1, 0, 0) = 0
            run(0) = m1
            house(2) = 1
            arm(true) = 0
            upload(0, 1, 0, 0, 1, 0) = -9
            mailboxes(0) = m1
            blobs(0) = b1
            fall() = 1
            mailboxes(0) = m1
            image() = 1
            image() = 0
            """);
    }

    private static void knocks() {
        Runs.run("knock: how often one knocked, with this; behind what is torn and falls, too", """
            house(10) = 0
            knock() = 1
            knock() = 2
            house(10) = 2
            arm(true) = 0
            knock() = 3
            house(1) = 1
            quota(0, 5) = -9
            fall() = 0
            image() = 0
            house(10) = 3
            knock() = 4
            house(2) = 0
            """);
    }
}
