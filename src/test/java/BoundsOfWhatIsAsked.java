/** Sentences of the promises about what is asked: where there is nothing, one thing, and the most. */
final class BoundsOfWhatIsAsked {
    private BoundsOfWhatIsAsked() {
    }

    static void all() {
        nothing();
        rows();
        mailboxes();
        paths();
        roles();
        emails();
        submissions();
        accounts();
        answers();
        house();
    }

    private static void nothing() {
        Runs.run("a row is \"\" without any; -9 or \"\" if there is none", """
            mailboxes(0) =
            emails(0, -1) =
            emails(0, 1) =
            emails(0, 0) =
            emails(0, -2) =
            emails(0, 2147483647) =
            emails(0, -2147483648) =
            threads(0) =
            thread(0, 1) =
            thread(0, 0) =
            thread(0, -1) =
            thread(0, 2147483647) =
            thread(0, -2147483648) =
            blobs(0) =
            submissions(0) =
            where(0, 1) =
            where(0, 0) =
            where(0, 2147483647) =
            where(0, -2147483648) =
            path(0, 1) =
            path(0, -1) =
            path(0, 0) =
            path(0, 2147483647) =
            path(0, -2147483648) =
            ofMailbox(0, 1, 0) = -9
            ofMailbox(0, -1, 9) = -9
            ofEmail(0, 1, 0) = -9
            ofEmail(0, -1, 10) = -9
            ofSubmission(0, 1, 0) = -9
            ofSubmission(0, -1, 3) = -9
            inRole(0, 0) = -1
            inRole(0, 5) = -1
            answer(0) =
            total(0, 0) = 0
            """);
    }

    private static void rows() {
        Runs.run("a row has one blank between two, of one, of two, and of IDS of two figures", """
            upload(0, 1, 0, 0, 1, 0) = 1
            newMailbox(0, 0, -1, 0, 0) = 0
            newEmail(0, 1, -2, 0, 0) = 1
            submit(0, -3, 2, 9) = 2
            run(0) = m1 e1 s1
            mailboxes(0) = m1
            emails(0, -1) = e1
            threads(0) = t1
            thread(0, 1) = e1
            blobs(0) = b1
            submissions(0) = s1:0
            where(0, 1) = m1
            path(0, 1) = 0
            upload(0, 1, 0, 1, 1, 0) = 2
            newMailbox(0, 19, 1, 0, 0) = 0
            newEmail(0, 2, -2, 0, 0) = 1
            submit(0, -3, 2, 9) = 2
            undo(0, -4) = 3
            changeEmail(0, 1, 2, -2) = 4
            run(0) = m2 e2 s2 ok ok
            mailboxes(0) = m1 m2
            emails(0, -1) = e1 e2
            emails(0, 2) = e1 e2
            threads(0) = t1 t2
            thread(0, 2) = e2
            blobs(0) = b1 b2
            submissions(0) = s1:0 s2:2
            where(0, 1) = m1 m2
            path(0, 2) = 0/19
            newEmail(0, 2, 2, 0, 0) = 0
            newEmail(0, 2, 2, 0, 0) = 1
            newEmail(0, 2, 2, 0, 0) = 2
            newEmail(0, 2, 2, 0, 0) = 3
            newEmail(0, 2, 2, 0, 0) = 4
            newEmail(0, 2, 2, 0, 0) = 5
            newEmail(0, 2, 2, 0, 0) = 6
            newEmail(0, 2, 2, 0, 0) = 7
            run(0) = e3 e4 e5 e6 e7 e8 e9 e10
            thread(0, 2) = e2 e3 e4 e5 e6 e7 e8 e9 e10
            """);
    }

    private static void mailboxes() {
        Runs.run("its MAILBOXES, by ORDER, then by NAMES, then by IDS", """
            newMailbox(0, 19, -1, 0, 9) = 0
            newMailbox(0, 0, -1, 0, 9) = 1
            newMailbox(0, 19, -3, 0, 0) = 2
            newMailbox(0, 9, -1, 0, 0) = 3
            newMailbox(0, 10, -1, 0, 0) = 4
            newMailbox(0, 19, -5, 0, 0) = 5
            newMailbox(0, 2, -1, 0, 8) = 6
            newMailbox(0, 19, -3, 0, 9) = 7
            run(0) = m1 m2 m3 m4 m5 m6 m7 taken
            mailboxes(0) = m4 m5 m3 m6 m7 m2 m1
            changeMailbox(0, 3, 3, 9) = 0
            run(0) = ok
            mailboxes(0) = m4 m5 m6 m7 m2 m1 m3
            changeMailbox(0, 1, 0, 18) = 0
            changeMailbox(0, 6, 3, 9) = 1
            run(0) = ok ok
            mailboxes(0) = m4 m5 m7 m2 m1 m3 m6
            """);
        Runs.run("what a MAILBOX has, each at its least and at its most", """
            newMailbox(0, 0, -1, 0, 0) = 0
            newMailbox(0, 19, -2, 5, 9) = 1
            newMailbox(0, 19, -3, 1, 9) = 2
            newMailbox(0, 18, -3, 2, 0) = 3
            run(0) = m1 m2 m3 m4
            ofMailbox(0, 1, 0) = 0
            ofMailbox(0, 1, 1) = -1
            ofMailbox(0, 1, 2) = 0
            ofMailbox(0, 1, 3) = 0
            ofMailbox(0, 1, 4) = 1
            ofMailbox(0, 1, 5) = 0
            ofMailbox(0, 1, 6) = 0
            ofMailbox(0, 1, 7) = 0
            ofMailbox(0, 1, 8) = 0
            ofMailbox(0, 1, 9) = 1
            ofMailbox(0, 2, 0) = 19
            ofMailbox(0, 2, 1) = 1
            ofMailbox(0, 2, 2) = 5
            ofMailbox(0, 2, 3) = 9
            ofMailbox(0, 2, 4) = 2
            ofMailbox(0, 2, 9) = 2
            ofMailbox(0, 3, 1) = 2
            ofMailbox(0, 3, 4) = 3
            ofMailbox(0, 3, 9) = 0
            ofMailbox(0, 5, 4) = -9
            ofMailbox(0, 0, 4) = -9
            ofMailbox(0, 5, 9) = -9
            ofMailbox(0, 0, 9) = -9
            ofMailbox(0, -1, 9) = -9
            ofMailbox(0, -1, 4) = -9
            ofMailbox(1, 1, 4) = -9
            dropMailbox(0, 3, false) = 0
            run(0) = ok
            ofMailbox(0, 3, 0) = -9
            ofMailbox(0, 2, 9) = 1
            ofMailbox(0, 4, 0) = 18
            """);
    }

    private static void paths() {
        Runs.run("the NAMES from the one without a PARENT on to it, with \"/\" between", """
            newMailbox(0, 19, -1, 0, 0) = 0
            newMailbox(0, 0, -2, 0, 0) = 1
            newMailbox(0, 10, -3, 0, 0) = 2
            run(0) = m1 m2 m3
            path(0, 1) = 19
            path(0, 2) = 19/0
            path(0, 3) = 19/0/10
            path(0, 4) =
            path(1, 1) =
            changeMailbox(0, 3, 1, -1) = 0
            changeMailbox(0, 1, 1, 3) = 1
            run(0) = ok ok
            path(0, 2) = 10/19/0
            path(0, 3) = 10
            dropMailbox(0, 2, true) = 0
            run(0) = ok
            path(0, 2) =
            path(0, 1) = 10/19
            """);
    }

    private static void roles() {
        Runs.run("the MAILBOX that has the ROLE; NONE without (for 0 the smallest one that has none)", """
            newMailbox(0, 0, -1, 5, 0) = 0
            newMailbox(0, 1, -1, 1, 0) = 1
            run(0) = m1 m2
            inRole(0, 0) = -1
            inRole(0, 1) = 2
            inRole(0, 2) = -1
            inRole(0, 3) = -1
            inRole(0, 4) = -1
            inRole(0, 5) = 1
            inRole(1, 1) = -1
            newMailbox(0, 2, -1, 0, 9) = 0
            newMailbox(0, 3, -1, 0, 0) = 1
            run(0) = m3 m4
            inRole(0, 0) = 3
            changeMailbox(0, 1, 2, 0) = 0
            run(0) = ok
            inRole(0, 0) = 1
            inRole(0, 5) = -1
            """);
    }

    private static void emails() {
        Runs.run("the EMAILS in a MAILBOX, by IDS; the MAILBOXES of an EMAIL, by IDS", """
            upload(0, 1, 0, 0, 1, 0) = 1
            newMailbox(0, 0, -1, 0, 9) = 0
            newMailbox(0, 1, -1, 0, 0) = 1
            newEmail(0, 1, -3, 0, 9) = 2
            newEmail(0, 1, -2, 0, 5) = 3
            newEmail(0, 1, -3, 0, 1) = 4
            changeEmail(0, -4, 2, -2) = 5
            run(0) = m1 m2 e1 e2 e3 ok
            emails(0, -1) = e1 e2 e3
            emails(0, 1) = e1 e2
            emails(0, 2) = e1 e3
            emails(0, 3) =
            emails(1, -1) =
            where(0, 1) = m1 m2
            where(0, 2) = m1
            where(0, 4) =
            where(1, 1) =
            ofEmail(0, 1, 3) = 2
            ofEmail(0, 2, 3) = 1
            ofEmail(0, 4, 3) = -9
            ofEmail(0, 0, 10) = -9
            dropEmail(0, 2) = 0
            run(0) = ok
            ofEmail(0, 2, 0) = -9
            ofEmail(0, 2, 10) = -9
            where(0, 2) =
            ofEmail(0, 3, 1) = 1
            """);
    }

    private static void submissions() {
        Runs.run("its EMAIL, TO, its time, how it is; each SUBMISSION by IDS with \":\" and how it is", """
            upload(0, 1, 0, 0, 1, 0) = 1
            newMailbox(0, 0, -1, 0, 0) = 0
            newEmail(0, 1, -2, 0, 0) = 1
            newEmail(0, 1, -2, 0, 0) = 2
            submit(0, -4, 0, 0) = 3
            submit(0, -3, 1, 9999) = 4
            submit(0, -3, 2, 0) = 5
            submit(0, -3, 2, 9) = 6
            undo(0, -8) = 7
            run(0) = m1 e1 e2 s1 s2 s3 s4 ok
            clock(0) = 2
            submissions(0) = s1:3 s2:0 s3:1 s4:2
            ofSubmission(0, 1, 0) = 2
            ofSubmission(0, 1, 1) = 0
            ofSubmission(0, 1, 2) = 0
            ofSubmission(0, 1, 3) = 3
            ofSubmission(0, 2, 0) = 1
            ofSubmission(0, 2, 1) = 1
            ofSubmission(0, 2, 2) = 9999
            ofSubmission(0, 2, 3) = 0
            ofSubmission(0, 3, 1) = 2
            ofSubmission(0, 3, 3) = 1
            ofSubmission(0, 4, 3) = 2
            ofSubmission(0, 5, 3) = -9
            ofSubmission(0, 0, 0) = -9
            ofSubmission(1, 1, 0) = -9
            dropMailbox(0, 1, true) = 0
            run(0) = ok
            ofSubmission(0, 2, 0) = 1
            ofAccount(0, 9) = 4
            ofAccount(0, 10) = 1
            """);
    }

    private static void accounts() {
        Runs.run("what an ACCOUNT has: STEPS, BOUND, USED, QUOTA, MAILBOXES, EMAILS, THREADS, BLOBS, SUBMISSIONS", """
            upload(0, 5, 0, 0, 1, 0) = 1
            upload(0, 6, 0, 1, 1, 0) = 2
            upload(0, 7, 0, 1, 1, 0) = 3
            newMailbox(0, 0, -1, 0, 0) = 0
            newMailbox(0, 1, -1, 0, 0) = 1
            newEmail(0, 1, -2, 0, 0) = 2
            newEmail(0, 2, -2, 0, 0) = 3
            newEmail(0, 2, -2, 0, 0) = 4
            submit(0, -4, 2, 9) = 5
            submit(0, -4, 2, 9) = 6
            bind(0, 2, 0) = 0
            ofAccount(0, 0) = 7
            ofAccount(0, 1) = 2
            ofAccount(0, 2) = 0
            run(0) = m1 m2 e1 e2 e3 s1 s2
            undo(0, 1) = 0
            run(0) = ok
            ofAccount(0, 0) = 0
            ofAccount(0, 1) = -1
            ofAccount(0, 2) = -1
            ofAccount(0, 3) = 17
            ofAccount(0, 4) = 400
            ofAccount(0, 5) = 2
            ofAccount(0, 6) = 3
            ofAccount(0, 7) = 2
            ofAccount(0, 8) = 3
            ofAccount(0, 9) = 2
            ofAccount(0, 10) = 1
            ofAccount(1, 3) = 0
            ofAccount(1, 5) = 0
            ofAccount(1, 10) = 0
            """);
    }

    private static void answers() {
        Runs.run("the last answer of run(); \"\" at first (it stays behind a fall); each ACCOUNT its own", """
            answer(0) =
            answer(1) =
            newMailbox(0, 0, -1, 0, 0) = 0
            run(0) = m1
            answer(0) = m1
            answer(1) =
            fall() = 1
            answer(0) = m1
            dropMailbox(1, 1, true) = 0
            run(1) = notfound
            answer(0) = m1
            answer(1) = notfound
            bind(0, 0, 9) = 1
            answer(0) = m1
            run(0) = state
            answer(0) = state
            newMailbox(0, 1, -1, 0, 0) = 0
            answer(0) = state
            clear(0) = 1
            answer(0) = state
            newMailbox(0, 1, -1, 0, 0) = 0
            arm(true) = 0
            run(0) = torn
            answer(0) = torn
            answer(1) = notfound
            run(0) =
            answer(0) =
            """);
    }

    private static void house() {
        Runs.run("house: each at first, and by one call that counts it", """
            house(0) = 0
            house(1) = 0
            house(2) = 0
            house(3) = 0
            house(4) = 0
            house(5) = 0
            house(6) = 0
            house(7) = 0
            house(8) = 0
            house(9) = 0
            house(10) = 0
            clock(999) = 0
            house(0) = 999
            upload(1, 1, 0, 0, 1, 0) = 1
            house(2) = 1
            newMailbox(1, 0, -1, 0, 0) = 0
            newEmail(1, 1, -2, 0, 0) = 1
            submit(1, -3, 2, 0) = 2
            submit(1, -3, 0, 0) = 3
            submit(1, -3, 0, 0) = 4
            undo(1, -6) = 5
            run(1) = m1 e1 s1 s2 s3 ok
            house(2) = 2
            house(5) = 1
            house(9) = 1
            clock(0) = 2
            house(2) = 4
            house(5) = 1
            house(7) = 1
            house(8) = 1
            bind(1, 0, 0) = 1
            run(1) = state
            house(5) = 1
            house(6) = 1
            arm(true) = 0
            house(1) = 1
            quota(0, 1) = -9
            house(1) = 0
            house(2) = 4
            house(3) = 1
            house(4) = 1
            fall() = 4
            house(3) = 1
            house(4) = 2
            knock() = 1
            house(10) = 1
            image() = 4
            house(2) = 0
            """);
    }
}
