/** Promises about changes of things and of what was there then. */
final class Changes {
    private Changes() {
    }

    static void all() {
        Runs.run("27 changes, 28 state, 29 then: wrong inputs", """
            changes(2, 4, 0, 0) = I
            changes(-1, 0, 0, 1) = I
            changes(0, -1, 0, 1) = A
            changes(0, 4, 0, 1) = A
            changes(0, 0, 0, 0) = A
            changes(0, 0, 0, 100) = A
            changes(0, 0, -1, 1) = cannot
            changes(0, 0, 1, 1) = cannot
            changes(0, 3, -2147483648, 99) = cannot
            changes(0, 3, 2147483647, 99) = cannot
            changes(0, 0, 0, 1) = 0
            state(2, 4) = I
            state(-1, 0) = I
            state(0, -1) = A
            state(0, 4) = A
            then(2, 4, 0) = I
            then(-1, 0, 0) = I
            then(0, -1, 0) = A
            then(0, 4, 0) = A
            then(0, 0, 1) = cannot
            then(0, 0, -1) = cannot
            then(0, 2, 0) =
            """);
        Runs.run("27 changes, each kind by ids, step by step", """
            newMailbox(0, 5, -1, 0, 0) = 0
            newMailbox(0, 6, -1, 0, 0) = 1
            newMailbox(0, 7, -1, 0, 0) = 2
            run(0) = m1 m2 m3
            changes(0, 0, 0, 2) = cannot
            changes(0, 0, 0, 3) = 1 +m1 +m2 +m3
            changeMailbox(0, 3, 3, 4) = 0
            newMailbox(0, 8, -1, 0, 0) = 1
            changeMailbox(0, 1, 3, 4) = 2
            newMailbox(0, 9, -1, 0, 0) = 3
            dropMailbox(0, 2, false) = 4
            run(0) = ok m4 ok m5 ok
            changes(0, 0, 1, 5) = 2 +m4 +m5 ~m1 ~m3 -m2
            changes(0, 0, 1, 4) = cannot
            changes(0, 0, 0, 5) = 2 +m1 +m3 +m4 +m5
            changes(0, 0, 0, 4) = 1 +m1 +m2 +m3
            changeMailbox(0, 1, 3, 0) = 0
            run(0) = ok
            changes(0, 0, 1, 5) = 3 +m4 +m5 ~m1 ~m3 -m2
            changeMailbox(0, 3, 3, 0) = 0
            run(0) = ok
            changes(0, 0, 2, 99) = 4 ~m1 ~m3
            changes(0, 0, 2, 1) = 3 ~m1
            dropMailbox(0, 1, false) = 0
            dropMailbox(0, 3, false) = 1
            dropMailbox(0, 4, false) = 2
            run(0) = ok ok ok
            changes(0, 0, 2, 99) = 5 -m1 -m3 -m4
            changes(0, 0, 1, 99) = 5 +m5 -m1 -m2 -m3
            changes(0, 0, 1, 5) = 5 +m5 -m1 -m2 -m3
            changes(0, 0, 0, 99) = 5 +m5
            changes(0, 0, 5, 1) = 5
            changes(0, 0, 6, 1) = cannot
            then(0, 0, 0) =
            then(0, 0, 1) = m1 m2 m3
            then(0, 0, 2) = m1 m3 m4 m5
            then(0, 0, 5) = m5
            then(0, 0, 6) = cannot
            state(0, 0) = 5
            state(1, 0) = 0
            """);
        Runs.run("27 what comes and goes, or is changed and changed back, in one act", """
            newMailbox(0, 5, -1, 0, 0) = 0
            newMailbox(0, 6, -1, 0, 0) = 1
            dropMailbox(0, -3, false) = 2
            changeMailbox(0, -2, 0, 9) = 3
            run(0) = m1 m2 ok ok
            changes(0, 0, 0, 1) = 1 +m1
            changeMailbox(0, 1, 0, 8) = 0
            changeMailbox(0, 1, 0, 9) = 1
            newMailbox(0, 6, -1, 0, 0) = 2
            dropMailbox(0, -4, false) = 3
            run(0) = ok ok m3 ok
            state(0, 0) = 1
            changeMailbox(0, 1, 0, 8) = 0
            run(0) = ok
            changeMailbox(0, 1, 0, 9) = 0
            run(0) = ok
            changes(0, 0, 1, 1) = 3 ~m1
            """);
        Runs.run("27 a mailbox is changed by each of its counts", """
            upload(0, 1, 0, 0, 1, 0) = 1
            upload(0, 1, 0, 0, 2, 0) = 2
            newMailbox(0, 0, -1, 0, 0) = 0
            newMailbox(0, 1, -1, 0, 0) = 1
            newEmail(0, 1, -2, 0, 0) = 2
            run(0) = m1 m2 e1
            changes(0, 0, 0, 9) = 1 +m1 +m2
            changeEmail(0, 1, 0, 4) = 0
            run(0) = ok
            state(0, 0) = 1
            state(0, 1) = 2
            newEmail(0, 1, 2, 1, 0) = 0
            run(0) = e2
            changes(0, 0, 1, 9) = 2 ~m2
            ofMailbox(0, 2, 5) = 1
            ofMailbox(0, 2, 6) = 0
            ofMailbox(0, 2, 7) = 1
            ofMailbox(0, 2, 8) = 1
            changeEmail(0, 1, 0, 1) = 0
            run(0) = ok
            changes(0, 0, 2, 9) = 3 ~m1 ~m2
            ofMailbox(0, 1, 8) = 0
            ofMailbox(0, 2, 8) = 0
            newEmail(0, 2, 1, 1, 0) = 0
            dropEmail(0, 1) = 1
            run(0) = e3 ok
            state(0, 0) = 3
            state(0, 2) = 3
            changes(0, 2, 1, 9) = 3 +t2 ~t1
            newEmail(0, 2, 1, 1, 0) = 0
            run(0) = e4
            changes(0, 0, 3, 9) = 4 ~m1
            ofMailbox(0, 1, 5) = 2
            ofMailbox(0, 1, 7) = 1
            """);
        Runs.run("27 a thread is changed by the set of its emails alone", """
            upload(0, 1, 0, 0, 1, 0) = 1
            newMailbox(0, 0, -1, 0, 0) = 0
            newEmail(0, 1, -2, 0, 0) = 1
            run(0) = m1 e1
            newEmail(0, 1, 1, 0, 0) = 0
            dropEmail(0, 1) = 1
            run(0) = e2 ok
            changes(0, 2, 1, 9) = 2 ~t1
            changes(0, 1, 1, 9) = 2 +e2 -e1
            changeEmail(0, 2, 0, 0) = 0
            newEmail(0, 1, 1, 0, 0) = 1
            dropEmail(0, -3) = 2
            run(0) = ok e3 ok
            state(0, 2) = 2
            state(0, 1) = 3
            changes(0, 1, 2, 9) = 3 ~e2
            dropEmail(0, 2) = 0
            newEmail(0, 1, 1, 0, 0) = 1
            run(0) = ok e4
            changes(0, 2, 2, 9) = 3 +t2 -t1
            then(0, 2, 2) = t1
            then(0, 2, 3) = t2
            """);
        Runs.run("27 an email that leaves a mailbox that goes for a new one is changed", """
            upload(0, 1, 0, 0, 1, 0) = 1
            newMailbox(0, 0, -1, 0, 0) = 0
            newMailbox(0, 1, -1, 0, 0) = 1
            newEmail(0, 1, -2, 0, 0) = 2
            changeEmail(0, -4, 2, -3) = 3
            run(0) = m1 m2 e1 ok
            dropMailbox(0, 1, true) = 0
            newMailbox(0, 0, -1, 0, 0) = 1
            changeEmail(0, 1, 2, -3) = 2
            run(0) = ok m3 ok
            where(0, 1) = m2 m3
            changes(0, 1, 1, 9) = 2 ~e1
            changes(0, 0, 1, 9) = 2 +m3 -m1
            """);
        Runs.run("27 submissions", """
            upload(0, 1, 0, 0, 1, 0) = 1
            newMailbox(0, 0, -1, 0, 0) = 0
            newEmail(0, 1, -2, 0, 0) = 1
            submit(0, -3, 2, 0) = 2
            submit(0, -3, 2, 0) = 3
            undo(0, -4) = 4
            run(0) = m1 e1 s1 s2 ok
            changes(0, 3, 0, 9) = 1 +s1 +s2
            submit(0, 1, 2, 0) = 0
            undo(0, 2) = 1
            run(0) = s3 ok
            changes(0, 3, 1, 9) = 2 +s3 ~s2
            then(0, 3, 1) = s1 s2
            clock(0) = 1
            changes(0, 3, 2, 9) = 3 ~s3
            changes(0, 3, 0, 9) = 3 +s1 +s2 +s3
            state(0, 1) = 1
            """);
        Runs.run("27 a thread that an email leaves is changed, one of which all are read is there", """
            upload(0, 1, 0, 0, 1, 0) = 1
            upload(0, 1, 0, 1, 1, 0) = 2
            newMailbox(0, 0, -1, 0, 0) = 0
            newEmail(0, 1, -2, 0, 0) = 1
            newEmail(0, 1, -2, 0, 0) = 2
            newEmail(0, 2, -2, 1, 0) = 3
            run(0) = m1 e1 e2 e3
            threads(0) = t1 t2
            ofAccount(0, 7) = 2
            dropEmail(0, 1) = 0
            run(0) = ok
            changes(0, 2, 1, 9) = 2 ~t1
            dropEmail(0, 2) = 0
            run(0) = ok
            changes(0, 2, 1, 9) = 3 -t1
            changes(0, 2, 2, 9) = 3 -t1
            changes(0, 2, 0, 9) = 3 +t2
            changes(0, 2, 0, 1) = cannot
            changes(0, 1, 0, 3) = 3 +e3
            ofMailbox(0, 1, 7) = 1
            threads(0) = t2
            ofAccount(0, 7) = 1
            """);
        Runs.run("27 an email that comes into the eighth mailbox and out of it is as it was", """
            upload(0, 1, 0, 0, 1, 0) = 1
            newMailbox(0, 0, -1, 0, 0) = 0
            newMailbox(0, 1, -1, 0, 0) = 1
            newMailbox(0, 2, -1, 0, 0) = 2
            newMailbox(0, 3, -1, 0, 0) = 3
            newMailbox(0, 4, -1, 0, 0) = 4
            newMailbox(0, 5, -1, 0, 0) = 5
            newMailbox(0, 6, -1, 0, 0) = 6
            newMailbox(0, 7, -1, 0, 0) = 7
            run(0) = m1 m2 m3 m4 m5 m6 m7 m8
            newEmail(0, 1, 7, 0, 0) = 0
            changeEmail(0, 1, 2, 1) = 1
            changeEmail(0, 1, 2, 5) = 2
            changeEmail(0, 1, 2, 3) = 3
            changeEmail(0, 1, 2, 2) = 4
            changeEmail(0, 1, 2, 6) = 5
            changeEmail(0, 1, 2, 4) = 6
            run(0) = e1 ok ok ok ok ok ok
            where(0, 1) = m1 m2 m3 m4 m5 m6 m7
            changeEmail(0, 1, 2, 8) = 0
            changeEmail(0, 1, 3, 8) = 1
            run(0) = ok ok
            state(0, 1) = 1
            state(0, 0) = 2
            changeEmail(0, 1, 2, 8) = 0
            changeEmail(0, 1, 3, 4) = 1
            run(0) = ok ok
            where(0, 1) = m1 m2 m3 m5 m6 m7 m8
            changes(0, 0, 2, 9) = 3 ~m4 ~m8
            """);
        known();
        manyIds();
    }

    /** IDS far above 64, of each TYPE. */
    private static void manyIds() {
        StringBuilder lines = new StringBuilder("upload(0, 1, 0, 0, 1, 0) = 1\nnewMailbox(0, 0, -1, 0, 0) = 0\nrun(0) = m1\n");
        for (int round = 0; round < 38; round++) {
            lines.append("newMailbox(0, 1, -1, 0, 0) = 0\ndropMailbox(0, -2, false) = 1\n");
            lines.append("newEmail(0, 1, 1, 0, 0) = 2\nsubmit(0, -4, 2, 9999) = 3\ndropEmail(0, -4) = 4\n");
            lines.append("newEmail(0, 1, 1, 0, 0) = 5\nsubmit(0, -7, 2, 9999) = 6\ndropEmail(0, -7) = 7\n");
            int first = 2 * round + 1;
            lines.append("run(0) = m").append(round + 2).append(" ok e").append(first).append(" s").append(first);
            lines.append(" ok e").append(first + 1).append(" s").append(first + 1).append(" ok\n");
        }
        lines.append("state(0, 1) = 0\nstate(0, 2) = 0\nstate(0, 3) = 38\nnewEmail(0, 1, 1, 0, 0) = 0\n");
        for (int mailbox = 0; mailbox < 6; mailbox++) {
            lines.append("newMailbox(0, ").append(mailbox + 1).append(", -1, 0, 0) = ").append(mailbox + 1).append('\n');
        }
        lines.append("""
            run(0) = e77 m40 m41 m42 m43 m44 m45
            emails(0, -1) = e77
            threads(0) = t77
            thread(0, 77) = e77
            thread(0, 13) =
            then(0, 1, 1) = e77
            changes(0, 1, 0, 9) = 1 +e77
            changes(0, 2, 0, 9) = 1 +t77
            changes(0, 3, 36, 9) = 38 +s73 +s74 +s75 +s76
            changes(0, 3, 36, 3) = 37 +s73 +s74
            ofMailbox(0, 1, 7) = 1
            ofMailbox(0, 1, 8) = 1
            ofSubmission(0, 76, 0) = 76
            undo(0, 63) = 0
            undo(0, 64) = 1
            undo(0, 65) = 2
            undo(0, 77) = 3
            run(0) = ok ok ok notfound
            changes(0, 3, 38, 9) = 39 ~s63 ~s64 ~s65
            ask(0, 0, 0, 1) = e77
            askAt(0, 0, 77, 0, 1) = e77
            askAt(0, 0, 13, 0, 1) = anchor
            queryChanges(0, 0, 0) = 0:e77
            dropEmail(0, 77) = 0
            run(0) = ok
            queryChanges(0, 0, 1) = -e77
            changes(0, 2, 1, 9) = 2 -t77
            sweep(0) = 1
            """);
        Runs.run("ids far above 64", lines.toString());
        StringBuilder blobs = new StringBuilder();
        for (int blob = 1; blob <= 260; blob++) {
            blobs.append("upload(0, 1, 0, 0, 1, 0) = ").append(blob).append('\n');
        }
        blobs.append("""
            newMailbox(0, 0, -1, 0, 0) = 0
            newEmail(0, 260, -2, 0, 0) = 1
            newEmail(0, 132, -2, 0, 0) = 2
            newEmail(0, 4, -2, 0, 0) = 3
            run(0) = m1 e1 e2 e3
            sweep(0) = 257
            blobs(0) = b4 b132 b260
            upload(0, 1, 0, 0, 1, 0) = 261
            dropEmail(0, 2) = 0
            run(0) = ok
            sweep(0) = 2
            blobs(0) = b4 b260
            """);
        Runs.run("ids of blobs far above 64", blobs.toString());
    }

    /** The STATE of now and the 23 below it are known. */
    private static void known() {
        StringBuilder lines = new StringBuilder("newMailbox(0, 0, -1, 0, 0) = 0\nrun(0) = m1\n");
        for (int state = 2; state <= 24; state++) {
            lines.append("changeMailbox(0, 1, 3, ").append(state % 10).append(") = 0\nrun(0) = ok\n");
            if (state == 23) {
                lines.append("changes(0, 0, 0, 1) = 23 +m1\nthen(0, 0, 0) =\n");
            }
        }
        lines.append("""
            state(0, 0) = 24
            changes(0, 0, 0, 1) = cannot
            then(0, 0, 0) = cannot
            changes(0, 0, 1, 1) = 24 ~m1
            then(0, 0, 1) = m1
            dropMailbox(0, 1, false) = 0
            run(0) = ok
            changes(0, 0, 1, 1) = cannot
            changes(0, 0, 2, 1) = 25 -m1
            """);
        Runs.run("27, 29 the states that are known", lines.toString());
    }
}
