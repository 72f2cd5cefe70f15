/** Promises about the clock and what is sent by it. */
final class Sending {
    private Sending() {
    }

    static void all() {
        Runs.run("16 clock, wrong inputs", """
            clock(-1) = A
            clock(1000) = A
            clock(999) = 0
            clock(0) = 0
            house(0) = 999
            """);
        Runs.run("16 clock, to somebody else", """
            upload(0, 5, 1, 2, 3, 4) = 1
            newMailbox(0, 0, -1, 2, 0) = 0
            newMailbox(0, 1, -1, 3, 0) = 1
            newMailbox(0, 2, -1, 0, 0) = 2
            newEmail(0, 1, -2, 6, 0) = 3
            changeEmail(0, -5, 2, -4) = 4
            submit(0, -5, 2, 10) = 5
            submit(0, -5, 2, 11) = 6
            run(0) = m1 m2 m3 e1 ok s1 s2
            ofMailbox(0, 1, 6) = 0
            clock(9) = 0
            submissions(0) = s1:0 s2:0
            where(0, 1) = m1 m3
            clock(1) = 1
            submissions(0) = s1:1 s2:0
            where(0, 1) = m2 m3
            ofEmail(0, 1, 2) = 4
            ofMailbox(0, 1, 5) = 0
            ofMailbox(0, 2, 6) = 1
            house(7) = 1
            house(2) = 3
            state(0, 0) = 2
            state(0, 1) = 2
            state(0, 2) = 1
            state(0, 3) = 2
            changes(0, 0, 1, 99) = 2 ~m1 ~m2 ~m3
            changes(0, 1, 1, 99) = 2 ~e1
            changes(0, 3, 1, 99) = 2 ~s1
            state(1, 3) = 0
            ofAccount(0, 8) = 1
            clock(0) = 0
            clock(1) = 1
            state(0, 1) = 2
            state(0, 0) = 2
            state(0, 3) = 3
            ofAccount(0, 10) = 0
            undo(0, 1) = 0
            run(0) = sent
            """);
        Runs.run("16 clock, to the other account", """
            upload(0, 5, 1, 2, 3, 4) = 1
            newMailbox(0, 0, -1, 2, 0) = 0
            newEmail(0, 1, -2, 2, 0) = 1
            submit(0, -3, 1, 0) = 2
            submit(0, -3, 1, 1) = 3
            run(0) = m1 e1 s1 s2
            newMailbox(1, 0, -1, 1, 0) = 0
            clock(0) = 1
            submissions(0) = s1:3 s2:0
            house(8) = 1
            where(0, 1) = m1
            ofEmail(0, 1, 2) = 0
            ofAccount(1, 0) = 1
            run(1) = m1
            clock(7) = 1
            submissions(0) = s1:3 s2:1
            emails(1, 1) = e1
            blobs(1) = b1
            ofEmail(1, 1, 0) = 1
            ofEmail(1, 1, 1) = 7
            ofEmail(1, 1, 2) = 0
            ofEmail(1, 1, 4) = 1
            ofEmail(1, 1, 5) = 5
            ofEmail(1, 1, 6) = 1
            ofEmail(1, 1, 7) = 2
            ofEmail(1, 1, 8) = 3
            ofEmail(1, 1, 9) = 4
            ofEmail(1, 1, 10) = 1
            ofMailbox(1, 1, 8) = 1
            state(1, 0) = 2
            state(1, 1) = 1
            state(1, 2) = 1
            state(1, 3) = 0
            house(2) = 5
            house(7) = 1
            """);
        Runs.run("16 clock, to the account itself, as one act", """
            upload(0, 5, 1, 2, 3, 4) = 1
            newMailbox(0, 0, -1, 1, 0) = 0
            newMailbox(0, 1, -1, 3, 0) = 1
            newEmail(0, 1, -2, 3, 9) = 2
            submit(0, -4, 0, 3) = 3
            run(0) = m1 m2 e1 s1
            clock(999) = 1
            emails(0, -1) = e1 e2
            where(0, 1) = m1 m2
            where(0, 2) = m1
            thread(0, 1) = e1 e2
            blobs(0) = b1 b2
            ofEmail(0, 2, 1) = 999
            ofEmail(0, 1, 2) = 1
            ofAccount(0, 3) = 10
            state(0, 1) = 2
            state(0, 2) = 2
            state(0, 3) = 2
            changes(0, 1, 1, 99) = 2 +e2 ~e1
            changes(0, 2, 1, 99) = 2 ~t1
            """);
        Runs.run("16 clock, what bounces", """
            upload(0, 5, 1, 2, 3, 4) = 1
            newMailbox(0, 0, -1, 1, 0) = 0
            newMailbox(0, 1, -1, 3, 0) = 1
            newMailbox(0, 2, -1, 2, 0) = 2
            newEmail(0, 1, -4, 2, 9) = 3
            submit(0, -5, 0, 1) = 4
            submit(0, -5, 0, 2) = 5
            submit(0, -5, 2, 3) = 6
            run(0) = m1 m2 m3 e1 s1 s2 s3
            quota(0, 9) = 400
            clock(1) = 1
            submissions(0) = s1:3 s2:0 s3:0
            where(0, 1) = m2
            ofEmail(0, 1, 2) = 0
            blobs(0) = b1
            quota(0, 10) = 9
            clock(1) = 1
            submissions(0) = s1:3 s2:1 s3:0
            emails(0, 1) = e2
            blobs(0) = b1 b2
            dropEmail(0, 1) = 0
            run(0) = ok
            clock(1) = 1
            submissions(0) = s1:3 s2:1 s3:3
            house(7) = 1
            house(8) = 2
            state(0, 3) = 4
            """);
        fortyEmails();
        Runs.run("16 clock, by times, then by accounts, then by ids", """
            upload(0, 1, 0, 0, 1, 0) = 1
            upload(1, 2, 0, 0, 1, 0) = 1
            newMailbox(0, 0, -1, 1, 0) = 0
            newEmail(0, 1, -2, 0, 0) = 1
            submit(0, -3, 0, 5) = 2
            submit(0, -3, 0, 4) = 3
            submit(0, -3, 0, 5) = 4
            run(0) = m1 e1 s1 s2 s3
            newMailbox(1, 0, -1, 0, 0) = 0
            newEmail(1, 1, -2, 0, 0) = 1
            submit(1, -3, 0, 5) = 2
            submit(1, -3, 0, 3) = 3
            run(1) = m1 e1 s1 s2
            clock(9) = 5
            ofEmail(0, 2, 5) = 2
            ofEmail(0, 3, 5) = 1
            ofEmail(0, 4, 5) = 1
            ofEmail(0, 5, 5) = 1
            ofEmail(0, 6, 5) = 2
            changes(0, 3, 1, 1) = 2 ~s2
            changes(0, 3, 2, 1) = 3 ~s1
            changes(0, 3, 3, 1) = 4 ~s3
            ofEmail(0, 2, 1) = 9
            house(2) = 9
            """);
        Runs.run("16 clock, at most 9999", """
            upload(0, 1, 0, 0, 1, 0) = 1
            newMailbox(0, 0, -1, 1, 0) = 0
            newEmail(0, 1, -2, 0, 0) = 1
            submit(0, -3, 0, 9999) = 2
            submit(0, -3, 0, 9998) = 3
            run(0) = m1 e1 s1 s2
            clock(999) = 0
            clock(999) = 0
            clock(999) = 0
            clock(999) = 0
            clock(999) = 0
            clock(999) = 0
            clock(999) = 0
            clock(999) = 0
            clock(999) = 0
            clock(999) = 0
            clock(8) = 1
            ofEmail(0, 2, 1) = 9998
            clock(999) = 1
            ofEmail(0, 3, 1) = 9999
            house(0) = 10997
            """);
        Runs.run("16 clock, torn", """
            upload(0, 1, 0, 0, 1, 0) = 1
            newMailbox(0, 0, -1, 3, 0) = 0
            newMailbox(0, 1, -1, 1, 0) = 1
            newEmail(0, 1, -3, 2, 0) = 2
            submit(0, -4, 0, 5) = 3
            submit(0, -4, 2, 6) = 4
            run(0) = m1 m2 e1 s1 s2
            arm(true) = 0
            clock(4) = 0
            house(1) = 1
            dropEmail(1, 4) = 0
            clock(4) = -9
            house(0) = 8
            house(1) = 0
            house(2) = 2
            house(3) = 1
            house(4) = 1
            house(7) = 0
            ofAccount(1, 0) = 0
            submissions(0) = s1:0 s2:0
            emails(0, -1) = e1
            where(0, 1) = m2
            ofEmail(0, 1, 2) = 2
            state(0, 3) = 1
            clock(0) = 2
            submissions(0) = s1:1 s2:1
            emails(0, -1) = e1 e2
            blobs(0) = b1 b2
            house(2) = 4
            """);
    }

    private static void fortyEmails() {
        StringBuilder lines = new StringBuilder();
        lines.append("quota(1, 9999) = 400\nupload(1, 1, 0, 0, 1, 0) = 1\nnewMailbox(1, 0, -1, 1, 0) = 0\nrun(1) = m1\n");
        for (int email = 1; email <= 39; email++) {
            lines.append("newEmail(1, 1, 1, 0, 0) = 0\nrun(1) = e").append(email).append('\n');
        }
        lines.append("upload(0, 1, 0, 0, 1, 0) = 1\nnewMailbox(0, 0, -1, 0, 0) = 0\nnewEmail(0, 1, -2, 0, 0) = 1\n");
        lines.append("submit(0, -3, 1, 0) = 2\nsubmit(0, -3, 1, 0) = 3\nrun(0) = m1 e1 s1 s2\nclock(0) = 2\n");
        lines.append("submissions(0) = s1:1 s2:3\nofAccount(1, 6) = 40\nofAccount(1, 8) = 2\n");
        Runs.run("16 clock, with forty emails there", lines.toString());
    }
}
