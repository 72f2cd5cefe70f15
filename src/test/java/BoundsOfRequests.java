/** Sentences of "Requests". */
final class BoundsOfRequests {
    /** What fills a REQUEST of ACCOUNT 0 with STEPS that find nothing. */
    private static final String[] STEPS = {"newMailbox(0, 0, 77, 0, 0)", "changeMailbox(0, 77, 0, 0)",
        "dropMailbox(0, 77, true)", "newEmail(0, 77, 77, 0, 0)", "changeEmail(0, 77, 0, 0)", "dropEmail(0, 77)",
        "submit(0, 77, 0, 0)", "undo(0, 77)"};

    private BoundsOfRequests() {
    }

    static void all() {
        steps();
        names();
        bound();
        references();
        newMailboxes();
        changedMailboxes();
        mailboxesThatGo();
        newEmails();
        changedEmails();
        submissions();
        records();
    }

    private static void steps() {
        for (String ninth : STEPS) {
            StringBuilder lines = new StringBuilder();
            StringBuilder answer = new StringBuilder();
            for (int step = 0; step < 8; step++) {
                lines.append("ofAccount(0, 0) = ").append(step).append('\n');
                lines.append(STEPS[step]).append(" = ").append(step).append('\n');
                answer.append(" notfound");
            }
            lines.append(ninth).append(" = S\nofAccount(0, 0) = 8\nofAccount(1, 0) = 0\n");
            lines.append(ninth.replace("(0, ", "(1, ")).append(" = 0\nrun(0) =").append(answer);
            lines.append("\nofAccount(0, 0) = 0\nofAccount(1, 0) = 1\n").append(ninth).append(" = 0\nhouse(2) = 0\n");
            Runs.run("at most 8 STEPS, numbered from 0; the ninth is " + ninth, lines.toString());
        }
        Runs.run("behind clear(), and behind a fall, STEPS are numbered from 0 again", """
            dropEmail(0, 1) = 0
            dropEmail(0, 1) = 1
            dropEmail(1, 1) = 0
            clear(0) = 2
            ofAccount(1, 0) = 1
            dropEmail(0, -2) = A
            dropEmail(0, 1) = 0
            dropEmail(0, -2) = 1
            fall() = 0
            dropEmail(0, -2) = A
            dropEmail(0, 1) = 0
            dropEmail(1, 1) = 0
            clear(0) = 1
            clear(0) = 0
            run(0) =
            run(1) = notfound
            """);
    }

    private static void names() {
        Runs.run("its ID, or -2 - k for what the STEP k made (k is ahead of it)", """
            upload(0, 1, 0, 0, 1, 0) = 1
            newMailbox(0, 0, -2, 0, 0) = A
            newMailbox(0, 0, -1, 0, 0) = 0
            newMailbox(0, 1, -3, 0, 0) = A
            newMailbox(0, 1, -2, 0, 0) = 1
            newEmail(0, 1, -4, 0, 0) = A
            newEmail(0, 1, -3, 0, 0) = 2
            submit(0, -5, 2, 0) = A
            submit(0, -4, 2, 0) = 3
            undo(0, -6) = A
            undo(0, -5) = 4
            changeEmail(0, -7, 0, 5) = A
            changeEmail(0, -4, 2, -7) = A
            changeEmail(0, -4, 2, -2) = 5
            changeMailbox(0, -8, 0, 5) = A
            changeMailbox(0, -3, 1, -8) = A
            changeMailbox(0, -3, 1, -1) = 6
            dropMailbox(0, -9, true) = A
            dropMailbox(0, -3, true) = 7
            dropEmail(0, -10) = A
            dropEmail(0, -9) = S
            run(0) = m1 m2 e1 s1 ok ok ok ok
            where(0, 1) = m1
            submissions(0) = s1:2
            mailboxes(0) = m1
            """);
        Runs.run("what a STEP of an earlier REQUEST made is not meant", """
            upload(0, 1, 0, 0, 1, 0) = 1
            newMailbox(0, 0, -1, 0, 0) = 0
            newEmail(0, 1, -2, 0, 0) = 1
            submit(0, -3, 2, 0) = 2
            run(0) = m1 e1 s1
            newMailbox(0, 0, -1, 0, 0) = 0
            newEmail(0, 9, 1, 0, 0) = 1
            submit(0, 9, 2, 0) = 2
            changeMailbox(0, -2, 3, 1) = 3
            dropEmail(0, -3) = 4
            undo(0, -4) = 5
            run(0) = taken notfound notfound noref noref noref
            dropEmail(0, 9) = 0
            dropEmail(0, 9) = 1
            dropEmail(0, 9) = 2
            newMailbox(0, 5, -2, 0, 0) = 3
            submit(0, -3, 2, 0) = 4
            undo(0, -4) = 5
            run(0) = notfound notfound notfound noref noref noref
            """);
    }

    private static void bound() {
        for (int type = 0; type < 4; type++) {
            Runs.run("BOUND to another STATE of TYPE " + type + " than that of now: nothing is done", """
                upload(0, 1, 0, 0, 1, 0) = 1
                newMailbox(0, 0, -1, 0, 0) = 0
                newEmail(0, 1, -2, 0, 0) = 1
                submit(0, -3, 2, 9) = 2
                bind(0, %1$d, 0) = 0
                run(0) = m1 e1 s1
                ofAccount(0, 1) = -1
                ofAccount(0, 2) = -1
                newMailbox(0, 1, -1, 0, 0) = 0
                bind(0, %1$d, 0) = 1
                ofAccount(0, 1) = %1$d
                ofAccount(0, 2) = 0
                run(0) = state
                answer(0) = state
                ofAccount(0, 0) = 0
                ofAccount(0, 1) = -1
                ofAccount(0, 2) = -1
                house(5) = 1
                house(6) = 1
                house(2) = 2
                newMailbox(0, 1, -1, 0, 0) = 0
                bind(0, %1$d, 2) = 1
                run(0) = state
                house(6) = 2
                bind(0, %1$d, 2147483647) = 1
                run(0) = state
                house(6) = 3
                mailboxes(0) = m1
                newMailbox(0, 1, -1, 0, 0) = 0
                bind(0, %1$d, 0) = 1
                bind(0, %1$d, 1) = 1
                run(0) = m2
                """.formatted(type));
        }
        Runs.run("BOUND: it counts what the STATE is as it is run; the last bind() is the one", """
            upload(0, 1, 0, 0, 1, 0) = 1
            newMailbox(0, 0, -1, 0, 0) = 0
            newEmail(0, 1, -2, 0, 0) = 1
            submit(0, -3, 2, 5) = 2
            run(0) = m1 e1 s1
            bind(0, 3, 1) = 1
            newMailbox(0, 1, -1, 0, 0) = 0
            clock(5) = 1
            run(0) = state
            bind(0, 3, 3) = 2
            submit(0, 1, 1, 6) = 0
            run(0) = state
            submit(0, 1, 1, 6) = 0
            run(0) = s2
            bind(0, 3, 4) = 3
            newMailbox(0, 1, -1, 0, 0) = 0
            clock(1) = 1
            run(0) = m2
            bind(0, 0, 7) = 2
            bind(1, 0, 0) = 0
            bind(0, 1, 1) = 1
            newMailbox(1, 1, -1, 0, 0) = 0
            run(1) = m1
            run(0) =
            house(6) = 2
            """);
        Runs.run("behind \"state\" what is armed stays so; the other REQUEST stays as it is typed", """
            newMailbox(0, 0, -1, 0, 0) = 0
            newMailbox(1, 0, -1, 0, 0) = 0
            bind(1, 0, 5) = 0
            bind(0, 0, 5) = 0
            arm(true) = 0
            run(0) = state
            house(1) = 1
            ofAccount(1, 0) = 1
            ofAccount(1, 1) = 0
            ofAccount(1, 2) = 5
            run(1) = state
            house(1) = 1
            house(6) = 2
            run(0) =
            run(1) =
            house(1) = 1
            house(2) = 0
            """);
    }

    private static void references() {
        Runs.run("noref: one that it refers to was not made, or is of another kind", """
            upload(0, 1, 0, 0, 1, 0) = 1
            newMailbox(0, 0, -1, 0, 0) = 0
            newEmail(0, 1, -2, 0, 0) = 1
            submit(0, -3, 2, 0) = 2
            newMailbox(0, 1, -3, 0, 0) = 3
            newMailbox(0, 1, -4, 0, 0) = 4
            dropMailbox(0, -3, true) = 5
            dropMailbox(0, -4, true) = 6
            dropMailbox(0, -5, true) = 7
            run(0) = m1 e1 s1 noref noref noref noref noref
            newMailbox(0, 1, -1, 0, 0) = 0
            newEmail(0, 1, 1, 0, 0) = 1
            submit(0, 1, 2, 0) = 2
            changeEmail(0, -2, 0, 0) = 3
            changeEmail(0, -4, 0, 0) = 4
            changeEmail(0, 1, 2, -3) = 5
            changeEmail(0, 1, 3, -4) = 6
            submit(0, -2, 2, 0) = 7
            run(0) = m2 e2 s2 noref noref noref noref noref
            newMailbox(0, 2, -1, 0, 0) = 0
            newEmail(0, 1, 1, 0, 0) = 1
            submit(0, 1, 2, 0) = 2
            submit(0, -4, 2, 0) = 3
            undo(0, -2) = 4
            undo(0, -3) = 5
            newEmail(0, 1, -3, 0, 0) = 6
            newEmail(0, 1, -4, 0, 0) = 7
            run(0) = m3 e3 s3 noref noref noref noref noref
            newEmail(0, 1, 1, 0, 0) = 0
            submit(0, 1, 2, 0) = 1
            changeMailbox(0, -2, 0, 9) = 2
            changeMailbox(0, -3, 0, 9) = 3
            changeMailbox(0, 1, 1, -2) = 4
            changeMailbox(0, 1, 1, -3) = 5
            dropEmail(0, -3) = 6
            dropEmail(0, -4) = 7
            run(0) = e4 s4 noref noref noref noref noref noref
            changeMailbox(0, 1, 3, 4) = 0
            changeEmail(0, 1, 0, 0) = 1
            undo(0, 4) = 2
            changeMailbox(0, -2, 3, 5) = 3
            changeEmail(0, -3, 0, 1) = 4
            undo(0, -4) = 5
            dropEmail(0, -3) = 6
            newEmail(0, 1, -2, 0, 0) = 7
            run(0) = ok ok ok noref noref noref noref noref
            """);
        Runs.run("noref ahead of notfound, of whatever the STEP names", """
            dropEmail(0, 9) = 0
            newEmail(0, 9, -2, 0, 0) = 1
            changeEmail(0, 9, 2, -2) = 2
            changeEmail(0, -2, 2, 9) = 3
            changeMailbox(0, 9, 1, -2) = 4
            changeMailbox(0, -2, 1, 9) = 5
            changeEmail(0, -2, 3, -2) = 6
            changeMailbox(0, -2, 1, -1) = 7
            run(0) = notfound noref noref noref noref noref noref noref
            house(2) = 0
            """);
        Runs.run("notfound: one that it names is not there, BLOBS too; also if it was made, but is gone", """
            upload(0, 1, 0, 0, 1, 0) = 1
            upload(1, 1, 0, 0, 1, 0) = 1
            upload(1, 1, 0, 0, 1, 0) = 2
            newMailbox(0, 0, -1, 0, 0) = 0
            newEmail(0, 2, -2, 0, 0) = 1
            newEmail(0, 1, 2, 0, 0) = 2
            newMailbox(0, 1, 2, 0, 0) = 3
            changeMailbox(0, 2, 0, 5) = 4
            changeMailbox(0, 1, 1, 2) = 5
            dropMailbox(0, 2, true) = 6
            newEmail(0, 2147483647, 1, 0, 0) = 7
            run(0) = m1 notfound notfound notfound notfound notfound notfound notfound
            newEmail(0, 1, 1, 0, 0) = 0
            changeEmail(0, -2, 2, 9) = 1
            changeEmail(0, -2, 3, 9) = 2
            dropEmail(0, -2) = 3
            changeEmail(0, -2, 0, 0) = 4
            changeEmail(0, -2, 2, 1) = 5
            dropEmail(0, -2) = 6
            submit(0, -2, 2, 0) = 7
            run(0) = e1 notfound notfound ok notfound notfound notfound notfound
            newMailbox(0, 1, -1, 0, 0) = 0
            dropMailbox(0, -2, false) = 1
            dropMailbox(0, -2, false) = 2
            changeMailbox(0, -2, 0, 4) = 3
            changeMailbox(0, 1, 1, -2) = 4
            newMailbox(0, 2, -2, 0, 0) = 5
            newEmail(0, 1, -2, 0, 0) = 6
            undo(0, 1) = 7
            run(0) = m2 ok notfound notfound notfound notfound notfound notfound
            newMailbox(1, 5, -1, 0, 0) = 0
            newEmail(1, 2, -2, 0, 0) = 1
            run(1) = m1 e1
            sweep(1) = 1
            newEmail(1, 1, 1, 0, 0) = 0
            run(1) = notfound
            """);
    }

    private static void newMailboxes() {
        Runs.run("new MAILBOX: notfound, many, taken, deep, the first of these that holds", """
            newMailbox(0, 0, -1, 1, 0) = 0
            newMailbox(0, 0, -2, 0, 0) = 1
            newMailbox(0, 0, -3, 0, 0) = 2
            newMailbox(0, 0, -4, 1, 0) = 3
            newMailbox(0, 0, -4, 0, 0) = 4
            newMailbox(0, 0, -3, 0, 0) = 5
            newMailbox(0, 1, -3, 1, 0) = 6
            newMailbox(0, 1, 9, 1, 0) = 7
            run(0) = m1 m2 m3 taken deep taken taken notfound
            newMailbox(0, 1, -1, 0, 0) = 0
            newMailbox(0, 2, -1, 0, 0) = 1
            newMailbox(0, 3, -1, 0, 0) = 2
            newMailbox(0, 4, -1, 0, 0) = 3
            newMailbox(0, 5, -1, 0, 0) = 4
            newMailbox(0, 0, -1, 1, 0) = 5
            newMailbox(0, 9, 3, 0, 0) = 6
            newMailbox(0, 9, 77, 0, 0) = 7
            run(0) = m4 m5 m6 m7 m8 many many notfound
            """);
    }

    private static void changedMailboxes() {
        Runs.run("change of a MAILBOX: taken (by another one); for the PARENT ring ahead of that, deep behind it", """
            newMailbox(0, 0, -1, 0, 0) = 0
            newMailbox(0, 0, -2, 0, 0) = 1
            newMailbox(0, 0, -3, 0, 0) = 2
            newMailbox(0, 1, -1, 0, 0) = 3
            newMailbox(0, 1, -4, 0, 0) = 4
            newMailbox(0, 1, -3, 0, 0) = 5
            run(0) = m1 m2 m3 m4 deep m5
            changeMailbox(0, 1, 1, 1) = 0
            changeMailbox(0, 1, 1, 2) = 1
            changeMailbox(0, 1, 1, 3) = 2
            changeMailbox(0, 2, 1, 3) = 3
            changeMailbox(0, 2, 1, -1) = 4
            changeMailbox(0, 4, 1, 2) = 5
            changeMailbox(0, 4, 1, 3) = 6
            changeMailbox(0, 3, 1, -1) = 7
            run(0) = ring ring ring ring taken taken deep taken
            state(0, 0) = 1
            house(2) = 1
            changeMailbox(0, 5, 0, 0) = 0
            changeMailbox(0, 3, 0, 1) = 1
            changeMailbox(0, 3, 0, 0) = 2
            changeMailbox(0, 3, 1, 2) = 3
            changeMailbox(0, 1, 1, -1) = 4
            changeMailbox(0, 3, 3, 9) = 5
            changeMailbox(0, 3, 3, 9) = 6
            run(0) = taken taken ok ok ok ok ok
            ofMailbox(0, 3, 3) = 9
            state(0, 0) = 2
            """);
        Runs.run("ring: it is itself, or under it, with a NAME that is taken and a DEPTH that is too deep, too", """
            newMailbox(0, 0, -1, 0, 0) = 0
            newMailbox(0, 1, -2, 0, 0) = 1
            newMailbox(0, 0, -3, 0, 0) = 2
            changeMailbox(0, -2, 1, -3) = 3
            newMailbox(0, 2, -1, 0, 0) = 4
            newMailbox(0, 1, -6, 0, 0) = 5
            newMailbox(0, 1, -4, 0, 0) = 6
            changeMailbox(0, 2, 1, 4) = 7
            run(0) = m1 m2 m3 ring m4 m5 deep taken
            changeMailbox(0, 4, 1, 3) = 0
            changeMailbox(0, 4, 1, 2) = 1
            changeMailbox(0, 4, 1, 1) = 2
            run(0) = deep deep ok
            path(0, 5) = 0/2/1
            """);
    }

    private static void mailboxesThatGo() {
        Runs.run("MAILBOX that goes: child, email; with them: those that are in none then go, too", """
            upload(0, 1, 0, 0, 1, 0) = 1
            newMailbox(0, 0, -1, 0, 0) = 0
            newMailbox(0, 1, -2, 0, 0) = 1
            newMailbox(0, 2, -1, 0, 0) = 2
            newEmail(0, 1, -2, 0, 0) = 3
            newEmail(0, 1, -3, 0, 0) = 4
            newEmail(0, 1, -3, 0, 0) = 5
            changeEmail(0, -6, 2, -4) = 6
            run(0) = m1 m2 m3 e1 e2 e3 ok
            dropMailbox(0, 1, false) = 0
            dropMailbox(0, 1, true) = 1
            dropMailbox(0, 2, false) = 2
            dropMailbox(0, 4, false) = 3
            run(0) = child child email notfound
            house(2) = 2
            dropMailbox(0, 2, true) = 0
            run(0) = ok
            emails(0, -1) = e1 e2
            where(0, 2) = m3
            thread(0, 1) = e1 e2
            dropMailbox(0, 1, false) = 0
            changeEmail(0, 1, 2, 3) = 1
            changeEmail(0, 1, 3, 1) = 2
            dropMailbox(0, 1, false) = 3
            run(0) = email ok ok ok
            mailboxes(0) = m3
            dropMailbox(0, 3, true) = 0
            newMailbox(0, 2, -1, 0, 0) = 1
            run(0) = ok m4
            emails(0, -1) =
            threads(0) =
            dropMailbox(0, 4, true) = 0
            run(0) = ok
            mailboxes(0) =
            """);
    }

    private static void newEmails() {
        StringBuilder lines = new StringBuilder("upload(0, 10, 0, 0, 1, 0) = 1\nupload(0, 9, 0, 0, 1, 0) = 2\n");
        lines.append("newMailbox(0, 0, -1, 0, 0) = 0\nrun(0) = m1\n");
        for (int email = 1; email <= 39; email++) {
            lines.append("newEmail(0, 1, 1, 0, 0) = 0\nrun(0) = e").append(email).append('\n');
        }
        lines.append("""
            quota(0, 399) = 400
            ofAccount(0, 3) = 390
            newEmail(0, 1, 1, 0, 0) = 0
            newEmail(0, 2, 1, 0, 0) = 1
            newEmail(0, 1, 1, 0, 0) = 2
            newEmail(0, 9, 1, 0, 0) = 3
            newEmail(0, 1, 9, 0, 0) = 4
            run(0) = quota e40 many notfound notfound
            dropEmail(0, 40) = 0
            newEmail(0, 1, 1, 0, 0) = 1
            newEmail(0, 2, 1, 0, 0) = 2
            newEmail(0, 2, 1, 0, 0) = 3
            run(0) = ok quota e41 many
            quota(0, 1) = 399
            dropEmail(0, 41) = 0
            newEmail(0, 2, 1, 0, 0) = 1
            run(0) = ok quota
            quota(0, 398) = 1
            newEmail(0, 2, 1, 0, 0) = 0
            run(0) = quota
            quota(0, 399) = 398
            newEmail(0, 2, 1, 0, 0) = 0
            run(0) = e42
            """);
        Runs.run("new EMAIL: many (there are 40), quota (USED would be above QUOTA)", lines.toString());
    }

    private static void changedEmails() {
        Runs.run("change of an EMAIL: last (it would be in no MAILBOX)", """
            upload(0, 1, 0, 0, 1, 0) = 1
            newMailbox(0, 0, -1, 0, 0) = 0
            newMailbox(0, 1, -1, 0, 0) = 1
            newEmail(0, 1, -2, 0, 0) = 2
            changeEmail(0, -4, 3, -2) = 3
            changeEmail(0, -4, 3, -3) = 4
            changeEmail(0, -4, 2, -3) = 5
            changeEmail(0, -4, 3, -2) = 6
            changeEmail(0, -4, 3, -3) = 7
            run(0) = m1 m2 e1 last ok ok ok last
            where(0, 1) = m2
            changeEmail(0, 1, 3, 2) = 0
            run(0) = last
            house(2) = 2
            changeEmail(0, 1, 3, 1) = 0
            run(0) = ok
            house(2) = 3
            state(0, 1) = 1
            """);
        Runs.run("change of an EMAIL: each KEYWORD it gets and loses, and the least and the most sets", """
            upload(0, 1, 0, 0, 1, 0) = 1
            newMailbox(0, 0, -1, 0, 0) = 0
            newEmail(0, 1, -2, 0, 0) = 1
            changeEmail(0, -3, 0, 0) = 2
            changeEmail(0, -3, 0, 1) = 3
            changeEmail(0, -3, 0, 2) = 4
            changeEmail(0, -3, 0, 3) = 5
            changeEmail(0, -3, 0, 4) = 6
            changeEmail(0, -3, 0, 5) = 7
            run(0) = m1 e1 ok ok ok ok ok ok
            ofEmail(0, 1, 2) = 63
            changeEmail(0, 1, 1, 5) = 0
            run(0) = ok
            ofEmail(0, 1, 2) = 31
            changeEmail(0, 1, 1, 0) = 0
            run(0) = ok
            ofEmail(0, 1, 2) = 30
            changeEmail(0, 1, 1, 1) = 0
            changeEmail(0, 1, 1, 2) = 1
            run(0) = ok ok
            ofEmail(0, 1, 2) = 24
            changeEmail(0, 1, 1, 3) = 0
            changeEmail(0, 1, 1, 4) = 1
            changeEmail(0, 1, 1, 4) = 2
            run(0) = ok ok ok
            ofEmail(0, 1, 2) = 0
            """);
    }

    private static void submissions() {
        Runs.run("undo: sent (it is not PENDING), of one that is SENT, UNDONE, or BOUNCED", """
            upload(0, 1, 0, 0, 1, 0) = 1
            newMailbox(0, 0, -1, 0, 0) = 0
            newEmail(0, 1, -2, 0, 0) = 1
            submit(0, -3, 2, 0) = 2
            submit(0, -3, 1, 0) = 3
            submit(0, -3, 2, 1) = 4
            submit(0, -3, 2, 1) = 5
            undo(0, -6) = 6
            undo(0, -6) = 7
            run(0) = m1 e1 s1 s2 s3 s4 ok sent
            clock(0) = 2
            submissions(0) = s1:1 s2:3 s3:2 s4:0
            undo(0, 1) = 0
            undo(0, 2) = 1
            undo(0, 3) = 2
            undo(0, 4) = 3
            undo(0, 5) = 4
            run(0) = sent sent sent ok notfound
            clock(1) = 0
            submissions(0) = s1:1 s2:3 s3:2 s4:2
            """);
    }

    private static void records() {
        Runs.run("if one was done, also if nothing is other by it, one RECORD; otherwise none, and what is armed stays", """
            newMailbox(0, 0, -1, 0, 0) = 0
            newMailbox(0, 0, -1, 0, 0) = 1
            run(0) = m1 taken
            house(2) = 1
            house(5) = 1
            changeMailbox(0, 1, 0, 0) = 0
            dropEmail(0, 1) = 1
            run(0) = ok notfound
            house(2) = 2
            house(5) = 2
            state(0, 0) = 1
            newMailbox(0, 0, -1, 0, 0) = 0
            dropEmail(0, 1) = 1
            newEmail(0, 1, -2, 0, 0) = 2
            arm(true) = 0
            run(0) = taken notfound noref
            answer(0) = taken notfound noref
            house(1) = 1
            house(2) = 2
            house(3) = 0
            house(5) = 2
            ofAccount(0, 0) = 0
            run(0) =
            house(1) = 1
            changeMailbox(0, 1, 0, 0) = 0
            run(0) = torn
            house(1) = 0
            house(2) = 2
            house(3) = 1
            house(4) = 1
            house(5) = 2
            newMailbox(0, 1, -1, 0, 0) = 0
            dropMailbox(0, -2, true) = 1
            run(0) = m2 ok
            house(2) = 3
            state(0, 0) = 1
            newMailbox(0, 1, -1, 0, 0) = 0
            run(0) = m3
            """);
        Runs.run("torn: the server falls, as if the call had not been; all REQUESTS are empty then, and not BOUND", """
            upload(0, 1, 0, 0, 1, 0) = 1
            newMailbox(0, 0, -1, 1, 0) = 0
            newMailbox(0, 1, -1, 0, 0) = 1
            newEmail(0, 1, -2, 0, 0) = 2
            submit(0, -4, 2, 9) = 3
            run(0) = m1 m2 e1 s1
            changeMailbox(0, 1, 0, 7) = 0
            changeEmail(0, 1, 0, 0) = 1
            changeEmail(0, 1, 2, 2) = 2
            undo(0, 1) = 3
            newEmail(0, 1, 2, 0, 0) = 4
            submit(0, -6, 0, 0) = 5
            newMailbox(0, 3, -1, 0, 0) = 6
            dropEmail(1, 1) = 0
            bind(1, 0, 4) = 0
            arm(true) = 0
            run(0) = torn
            answer(0) = torn
            answer(1) =
            ofAccount(0, 0) = 0
            ofAccount(1, 0) = 0
            ofAccount(1, 1) = -1
            ofAccount(1, 2) = -1
            ofMailbox(0, 1, 0) = 0
            ofEmail(0, 1, 2) = 0
            where(0, 1) = m1
            submissions(0) = s1:0
            emails(0, -1) = e1
            mailboxes(0) = m1 m2
            ofMailbox(0, 1, 6) = 1
            state(0, 0) = 1
            state(0, 1) = 1
            state(0, 2) = 1
            state(0, 3) = 1
            house(2) = 2
            house(9) = 0
            dropMailbox(0, 1, true) = 0
            arm(true) = 0
            run(0) = torn
            emails(0, 1) = e1
            ofAccount(0, 3) = 1
            dropMailbox(0, 1, true) = 0
            run(0) = ok
            emails(0, 1) =
            ofAccount(0, 3) = 0
            """);
        Runs.run("torn: that is so for one alone", """
            arm(true) = 0
            quota(0, 5) = -9
            quota(0, 5) = 400
            arm(true) = 0
            arm(true) = 1
            newMailbox(0, 0, -1, 0, 0) = 0
            run(0) = torn
            newMailbox(0, 0, -1, 0, 0) = 0
            run(0) = m1
            house(3) = 2
            house(4) = 2
            house(2) = 2
            """);
    }
}
