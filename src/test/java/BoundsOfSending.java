/** Sentences of "Sending". */
final class BoundsOfSending {
    private BoundsOfSending() {
    }

    static void all() {
        times();
        standing();
        turns();
        filedAway();
        received();
        bounced();
        quotas();
        torn();
    }

    private static void times() {
        Runs.run("as the CLOCK goes on, SUBMISSIONS whose time is not above it, and that are PENDING, are sent", """
            house(0) = 0
            upload(0, 1, 0, 0, 1, 0) = 1
            newMailbox(0, 0, -1, 0, 0) = 0
            newEmail(0, 1, -2, 0, 0) = 1
            submit(0, -3, 2, 0) = 2
            submit(0, -3, 2, 1) = 3
            submit(0, -3, 2, 5) = 4
            submit(0, -3, 2, 6) = 5
            submit(0, -3, 2, 5) = 6
            undo(0, -8) = 7
            run(0) = m1 e1 s1 s2 s3 s4 s5 ok
            submissions(0) = s1:0 s2:0 s3:0 s4:0 s5:2
            clock(0) = 1
            submissions(0) = s1:1 s2:0 s3:0 s4:0 s5:2
            clock(4) = 1
            submissions(0) = s1:1 s2:1 s3:0 s4:0 s5:2
            clock(0) = 0
            clock(1) = 1
            submissions(0) = s1:1 s2:1 s3:1 s4:0 s5:2
            house(0) = 5
            submit(0, 1, 2, 0) = 0
            run(0) = s6
            submissions(0) = s1:1 s2:1 s3:1 s4:0 s5:2 s6:0
            clock(999) = 2
            submissions(0) = s1:1 s2:1 s3:1 s4:1 s5:2 s6:1
            house(0) = 1004
            clock(999) = 0
            house(7) = 5
            house(9) = 1
            """);
        Runs.run("a SUBMISSION of which the time is 9999", """
            upload(0, 1, 0, 0, 1, 0) = 1
            newMailbox(0, 0, -1, 1, 0) = 0
            newEmail(0, 1, -2, 0, 0) = 1
            submit(0, -3, 0, 9999) = 2
            run(0) = m1 e1 s1
            clock(999) = 0
            clock(999) = 0
            clock(999) = 0
            clock(999) = 0
            clock(999) = 0
            clock(999) = 0
            clock(999) = 0
            clock(999) = 0
            clock(999) = 0
            clock(999) = 0
            clock(8) = 0
            house(0) = 9998
            ofAccount(0, 10) = 1
            clock(1) = 1
            ofAccount(0, 10) = 0
            ofEmail(0, 2, 1) = 9999
            """);
    }

    private static void standing() {
        Runs.run("what is due, and is PENDING, is sent at clock(0), too", """
            clock(0) = 0
            clock(7) = 0
            upload(0, 4, 0, 0, 1, 0) = 1
            newMailbox(0, 0, -1, 1, 0) = 0
            newEmail(0, 1, -2, 0, 0) = 1
            submit(0, -3, 0, 7) = 2
            submit(0, -3, 1, 0) = 3
            submit(0, -3, 2, 8) = 4
            submit(0, -3, 2, 7) = 5
            undo(0, -7) = 6
            run(0) = m1 e1 s1 s2 s3 s4 ok
            submissions(0) = s1:0 s2:0 s3:0 s4:2
            house(2) = 2
            arm(true) = 0
            clock(0) = -9
            submissions(0) = s1:0 s2:0 s3:0 s4:2
            emails(0, -1) = e1
            house(0) = 7
            house(2) = 2
            clock(0) = 2
            submissions(0) = s1:1 s2:3 s3:0 s4:2
            emails(0, -1) = e1 e2
            ofEmail(0, 2, 1) = 7
            house(0) = 7
            house(2) = 4
            state(0, 3) = 3
            arm(true) = 0
            clock(0) = 0
            house(1) = 1
            clock(-1) = A
            """);
    }

    private static void turns() {
        Runs.run("by their times, then by ACCOUNTS, then by IDS", """
            upload(0, 3, 0, 0, 1, 0) = 1
            upload(0, 4, 0, 1, 1, 0) = 2
            upload(1, 5, 0, 2, 1, 0) = 1
            upload(1, 6, 0, 3, 1, 0) = 2
            newMailbox(0, 0, -1, 1, 0) = 0
            newEmail(0, 1, -2, 0, 0) = 1
            newEmail(0, 2, -2, 0, 0) = 2
            submit(0, -4, 0, 7) = 3
            submit(0, -3, 0, 7) = 4
            submit(0, -3, 0, 9) = 5
            run(0) = m1 e1 e2 s1 s2 s3
            newMailbox(1, 0, -1, 0, 0) = 0
            newEmail(1, 1, -2, 0, 0) = 1
            newEmail(1, 2, -2, 0, 0) = 2
            submit(1, -3, 0, 8) = 3
            submit(1, -4, 0, 7) = 4
            submit(1, -3, 0, 6) = 5
            run(1) = m1 e1 e2 s1 s2 s3
            clock(9) = 6
            emails(0, -1) = e1 e2 e3 e4 e5 e6 e7 e8
            ofEmail(0, 3, 5) = 5
            ofEmail(0, 4, 5) = 4
            ofEmail(0, 5, 5) = 3
            ofEmail(0, 6, 5) = 6
            ofEmail(0, 7, 5) = 5
            ofEmail(0, 8, 5) = 3
            state(0, 1) = 7
            state(1, 1) = 1
            house(2) = 12
            """);
    }

    private static void filedAway() {
        Runs.run("with a MAILBOX with the ROLE sent it goes into that, and out of that with the ROLE drafts", """
            upload(0, 1, 0, 0, 1, 0) = 1
            newMailbox(0, 0, -1, 2, 0) = 0
            newMailbox(0, 1, -1, 0, 0) = 1
            newEmail(0, 1, -2, 63, 0) = 2
            submit(0, -4, 2, 1) = 3
            submit(0, -4, 2, 2) = 4
            submit(0, -4, 2, 3) = 5
            submit(0, -4, 2, 4) = 6
            run(0) = m1 m2 e1 s1 s2 s3 s4
            clock(1) = 1
            where(0, 1) = m1
            ofEmail(0, 1, 2) = 61
            changeMailbox(0, 2, 2, 3) = 0
            changeEmail(0, 1, 0, 1) = 1
            run(0) = ok ok
            clock(1) = 1
            where(0, 1) = m2
            ofEmail(0, 1, 2) = 61
            state(0, 1) = 4
            clock(1) = 1
            where(0, 1) = m2
            state(0, 1) = 4
            changeMailbox(0, 1, 2, 0) = 0
            changeEmail(0, 1, 2, 1) = 1
            changeEmail(0, 1, 3, 2) = 2
            run(0) = ok ok ok
            clock(1) = 1
            where(0, 1) = m1 m2
            """);
        Runs.run("it goes out of drafts alone, if it is in that, and stays in all others", """
            upload(0, 1, 0, 0, 1, 0) = 1
            newMailbox(0, 0, -1, 0, 0) = 0
            newMailbox(0, 1, -1, 3, 0) = 1
            newMailbox(0, 2, -1, 2, 0) = 2
            newMailbox(0, 3, -1, 4, 0) = 3
            newEmail(0, 1, -5, 0, 0) = 4
            changeEmail(0, -6, 2, -2) = 5
            changeEmail(0, -6, 2, -4) = 6
            submit(0, -6, 2, 1) = 7
            run(0) = m1 m2 m3 m4 e1 ok ok s1
            where(0, 1) = m1 m3 m4
            clock(1) = 1
            where(0, 1) = m1 m2 m4
            """);
        Runs.run("all this also if the SUBMISSION is BOUNCED then; without its EMAIL it is BOUNCED", """
            upload(0, 1, 0, 0, 1, 0) = 1
            newMailbox(0, 0, -1, 2, 0) = 0
            newMailbox(0, 1, -1, 3, 0) = 1
            newEmail(0, 1, -2, 2, 0) = 2
            submit(0, -4, 1, 1) = 3
            submit(0, -4, 2, 2) = 4
            run(0) = m1 m2 e1 s1 s2
            clock(1) = 1
            submissions(0) = s1:3 s2:0
            where(0, 1) = m2
            ofEmail(0, 1, 2) = 0
            state(0, 0) = 2
            state(0, 1) = 2
            state(0, 3) = 2
            state(1, 1) = 0
            blobs(1) =
            dropEmail(0, 1) = 0
            run(0) = ok
            state(0, 0) = 3
            clock(1) = 1
            submissions(0) = s1:3 s2:3
            ofSubmission(0, 2, 0) = 1
            house(8) = 2
            house(7) = 0
            state(0, 0) = 3
            state(0, 1) = 3
            state(0, 3) = 3
            """);
    }

    private static void received() {
        Runs.run("a BLOB comes that is like that of the EMAIL, and an EMAIL of it, RECEIVED at the CLOCK as it has gone on", """
            upload(0, 99, 9, 8, 97, 96) = 1
            newMailbox(0, 0, -1, 0, 0) = 0
            newEmail(0, 1, -2, 63, 5) = 1
            submit(0, -3, 1, 1) = 2
            submit(0, -3, 1, 2) = 3
            run(0) = m1 e1 s1 s2
            upload(1, 1, 0, 8, 96, 0) = 1
            newMailbox(1, 0, -1, 1, 0) = 0
            newEmail(1, 1, -2, 1, 0) = 1
            run(1) = m1 e1
            clock(500) = 2
            blobs(1) = b1 b2 b3
            emails(1, 1) = e1 e2 e3
            ofEmail(1, 2, 0) = 2
            ofEmail(1, 2, 1) = 500
            ofEmail(1, 2, 2) = 0
            ofEmail(1, 2, 3) = 1
            ofEmail(1, 2, 4) = 1
            ofEmail(1, 2, 5) = 99
            ofEmail(1, 2, 6) = 9
            ofEmail(1, 2, 7) = 8
            ofEmail(1, 2, 8) = 97
            ofEmail(1, 2, 9) = 96
            ofEmail(1, 2, 10) = 1
            ofEmail(1, 3, 0) = 3
            ofEmail(1, 3, 1) = 500
            ofEmail(0, 1, 2) = 61
            ofMailbox(1, 1, 5) = 3
            ofMailbox(1, 1, 6) = 2
            ofMailbox(1, 1, 7) = 1
            ofMailbox(1, 1, 8) = 1
            blobs(0) = b1
            """);
        Runs.run("a BLOB comes also where that of the EMAIL is in no other; the EMAIL that was sent may go", """
            upload(0, 2, 0, 0, 1, 0) = 1
            newMailbox(0, 0, -1, 1, 0) = 0
            newEmail(0, 1, -2, 0, 0) = 1
            submit(0, -3, 0, 1) = 2
            run(0) = m1 e1 s1
            clock(1) = 1
            blobs(0) = b1 b2
            dropEmail(0, 1) = 0
            run(0) = ok
            sweep(0) = 1
            blobs(0) = b2
            ofEmail(0, 2, 0) = 2
            ofAccount(0, 3) = 2
            thread(0, 1) = e2
            """);
    }

    private static void bounced() {
        Runs.run("if there is no inbox, nothing comes, and it is BOUNCED; an inbox that comes in time is there", """
            upload(0, 1, 0, 0, 1, 0) = 1
            newMailbox(0, 0, -1, 1, 0) = 0
            newEmail(0, 1, -2, 0, 0) = 1
            submit(0, -3, 1, 1) = 2
            submit(0, -3, 1, 2) = 3
            submit(0, -3, 1, 3) = 4
            run(0) = m1 e1 s1 s2 s3
            newMailbox(1, 0, -1, 5, 0) = 0
            run(1) = m1
            clock(1) = 1
            submissions(0) = s1:3 s2:0 s3:0
            emails(1, -1) =
            blobs(1) =
            changeMailbox(1, 1, 2, 1) = 0
            run(1) = ok
            clock(1) = 1
            submissions(0) = s1:3 s2:1 s3:0
            emails(1, -1) = e1
            blobs(1) = b1
            changeMailbox(1, 1, 2, 0) = 0
            run(1) = ok
            clock(1) = 1
            submissions(0) = s1:3 s2:1 s3:3
            emails(1, -1) = e1
            blobs(1) = b1
            house(7) = 1
            house(8) = 2
            """);
        StringBuilder lines = new StringBuilder("""
            upload(0, 1, 0, 0, 1, 0) = 1
            newMailbox(0, 0, -1, 1, 0) = 0
            newEmail(0, 1, -2, 0, 0) = 1
            submit(0, -3, 0, 1) = 2
            submit(0, -3, 0, 1) = 3
            submit(0, -3, 0, 2) = 4
            run(0) = m1 e1 s1 s2 s3
            """);
        for (int email = 2; email <= 39; email++) {
            lines.append("newEmail(0, 1, 1, 0, 0) = 0\nrun(0) = e").append(email).append('\n');
        }
        lines.append("""
            clock(1) = 2
            submissions(0) = s1:1 s2:3 s3:0
            ofAccount(0, 6) = 40
            blobs(0) = b1 b2
            dropEmail(0, 2) = 0
            run(0) = ok
            clock(1) = 1
            submissions(0) = s1:1 s2:3 s3:1
            ofAccount(0, 6) = 40
            thread(0, 1) = e1 e3""");
        for (int email = 4; email <= 39; email++) {
            lines.append(" e").append(email);
        }
        lines.append(" e40 e41\n");
        Runs.run("if there are 40 EMAILS, nothing comes, and it is BOUNCED", lines.toString());
    }

    private static void quotas() {
        Runs.run("if it would be above the QUOTA, nothing comes, and it is BOUNCED", """
            upload(0, 10, 0, 0, 1, 0) = 1
            newMailbox(0, 0, -1, 0, 0) = 0
            newEmail(0, 1, -2, 0, 0) = 1
            submit(0, -3, 1, 1) = 2
            submit(0, -3, 1, 2) = 3
            submit(0, -3, 1, 3) = 4
            run(0) = m1 e1 s1 s2 s3
            newMailbox(1, 0, -1, 1, 0) = 0
            run(1) = m1
            quota(1, 9) = 400
            clock(1) = 1
            submissions(0) = s1:3 s2:0 s3:0
            ofAccount(1, 3) = 0
            quota(1, 10) = 9
            clock(1) = 1
            submissions(0) = s1:3 s2:1 s3:0
            ofAccount(1, 3) = 10
            quota(1, 19) = 10
            quota(0, 1) = 400
            clock(1) = 1
            submissions(0) = s1:3 s2:1 s3:3
            ofAccount(1, 3) = 10
            blobs(1) = b1
            """);
    }

    private static void torn() {
        Runs.run("torn: it and those behind it are as they were, the CLOCK has gone on; those ahead of it are sent", """
            upload(0, 1, 0, 0, 1, 0) = 1
            newMailbox(0, 0, -1, 1, 0) = 0
            newMailbox(0, 1, -1, 3, 0) = 1
            newEmail(0, 1, -2, 2, 0) = 2
            submit(0, -4, 0, 1) = 3
            submit(0, -4, 0, 2) = 4
            submit(0, -4, 1, 3) = 5
            run(0) = m1 m2 e1 s1 s2 s3
            arm(true) = 0
            clock(0) = 0
            house(1) = 1
            newMailbox(0, 5, -1, 0, 0) = 0
            bind(1, 2, 3) = 0
            clock(2) = -9
            house(0) = 2
            house(1) = 0
            house(2) = 2
            house(3) = 1
            house(4) = 1
            house(7) = 0
            ofAccount(0, 0) = 0
            ofAccount(1, 1) = -1
            submissions(0) = s1:0 s2:0 s3:0
            emails(0, -1) = e1
            blobs(0) = b1
            where(0, 1) = m1
            ofEmail(0, 1, 2) = 2
            state(0, 1) = 1
            state(0, 3) = 1
            clock(1) = 3
            house(0) = 3
            house(2) = 5
            submissions(0) = s1:1 s2:1 s3:3
            emails(0, -1) = e1 e2 e3
            ofEmail(0, 2, 1) = 3
            state(0, 3) = 4
            """);
        Runs.run("torn: a SUBMISSION that would be BOUNCED is one RECORD, too", """
            upload(0, 1, 0, 0, 1, 0) = 1
            newMailbox(0, 0, -1, 0, 0) = 0
            newEmail(0, 1, -2, 0, 0) = 1
            submit(0, -3, 2, 1) = 2
            dropEmail(0, -3) = 3
            run(0) = m1 e1 s1 ok
            arm(true) = 0
            clock(1) = -9
            submissions(0) = s1:0
            house(8) = 0
            clock(0) = 1
            submissions(0) = s1:3
            house(8) = 1
            house(2) = 3
            """);
    }
}
