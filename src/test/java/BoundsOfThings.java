/** Sentences of "What an account has". */
final class BoundsOfThings {
    private BoundsOfThings() {
    }

    static void all() {
        ids();
        farIds();
        blobs();
        mailboxes();
        emails();
        threads();
        counts();
        calls();
    }

    private static void ids() {
        Runs.run("IDS 1, 2 and so on, of each kind apart, as they come; of each ACCOUNT apart", """
            upload(0, 1, 0, 0, 1, 0) = 1
            upload(0, 1, 0, 1, 2, 0) = 2
            upload(1, 1, 0, 0, 1, 0) = 1
            newMailbox(0, 0, -1, 0, 0) = 0
            newEmail(0, 2, -2, 0, 0) = 1
            submit(0, -3, 2, 9) = 2
            newMailbox(0, 1, -1, 0, 0) = 3
            newEmail(0, 1, -2, 0, 0) = 4
            submit(0, -6, 2, 9) = 5
            run(0) = m1 e1 s1 m2 e2 s2
            newMailbox(1, 0, -1, 0, 0) = 0
            newEmail(1, 1, -2, 0, 0) = 1
            submit(1, -3, 2, 9) = 2
            run(1) = m1 e1 s1
            threads(0) = t1 t2
            threads(1) = t1
            """);
        Runs.run("IDS: none ever again, behind what goes, an image and a fall", """
            upload(0, 1, 0, 0, 1, 0) = 1
            newMailbox(0, 0, -1, 0, 0) = 0
            newEmail(0, 1, -2, 0, 0) = 1
            submit(0, -3, 2, 9) = 2
            run(0) = m1 e1 s1
            dropMailbox(0, 1, true) = 0
            run(0) = ok
            sweep(0) = 1
            upload(0, 1, 0, 0, 1, 0) = 2
            newMailbox(0, 0, -1, 0, 0) = 0
            newEmail(0, 2, -2, 0, 0) = 1
            submit(0, -3, 2, 9) = 2
            run(0) = m2 e2 s2
            threads(0) = t2
            dropMailbox(0, 2, true) = 0
            run(0) = ok
            sweep(0) = 1
            image() = 8
            fall() = 0
            upload(0, 1, 0, 0, 1, 0) = 3
            newMailbox(0, 0, -1, 0, 0) = 0
            newEmail(0, 3, -2, 0, 0) = 1
            submit(0, -3, 2, 9) = 2
            run(0) = m3 e3 s3
            threads(0) = t3
            """);
        Runs.run("IDS that a torn RECORD took are given again, of each kind", """
            upload(0, 1, 0, 0, 1, 0) = 1
            upload(0, 1, 0, 1, 2, 0) = 2
            newMailbox(0, 0, -1, 0, 0) = 0
            newEmail(0, 1, -2, 0, 0) = 1
            run(0) = m1 e1
            newMailbox(0, 1, -1, 0, 0) = 0
            newEmail(0, 2, -2, 0, 0) = 1
            submit(0, -3, 2, 9) = 2
            arm(true) = 0
            run(0) = torn
            mailboxes(0) = m1
            emails(0, -1) = e1
            threads(0) = t1
            submissions(0) =
            newMailbox(0, 1, -1, 0, 0) = 0
            newEmail(0, 2, -2, 0, 0) = 1
            submit(0, -3, 2, 9) = 2
            run(0) = m2 e2 s1
            threads(0) = t1 t2
            arm(true) = 0
            upload(0, 1, 0, 0, 1, 0) = -9
            upload(0, 1, 0, 0, 1, 0) = 3
            """);
    }

    /** IDS 63, 64 and 65, and 128, each as the one that is told alone. */
    private static void farIds() {
        StringBuilder lines = new StringBuilder("upload(0, 1, 0, 0, 1, 0) = 1\nnewMailbox(0, 0, -1, 0, 0) = 0\nrun(0) = m1\n");
        int next = 1;
        int state = 0;
        for (int alone : new int[] {63, 64, 65, 128}) {
            while (next < alone) {
                int many = Math.min(alone - next, 2);
                StringBuilder answer = new StringBuilder();
                for (int k = 0; k < many; k++) {
                    lines.append("newEmail(0, 1, 1, 0, 0) = ").append(3 * k).append("\nsubmit(0, ").append(-2 - 3 * k);
                    lines.append(", 2, 9999) = ").append(3 * k + 1).append("\ndropEmail(0, ").append(-2 - 3 * k);
                    lines.append(") = ").append(3 * k + 2).append('\n');
                    answer.append(" e").append(next + k).append(" s").append(next + k).append(" ok");
                }
                lines.append("run(0) =").append(answer).append('\n');
                next += many;
                state++;
            }
            lines.append("newEmail(0, 1, 1, 0, 0) = 0\nsubmit(0, -2, 2, 9999) = 1\nrun(0) = e").append(alone);
            lines.append(" s").append(alone).append("\nchanges(0, 3, ").append(state).append(", 1) = ").append(state + 1);
            lines.append(" +s").append(alone).append("\nthreads(0) = t").append(alone).append("\nthread(0, ").append(alone);
            lines.append(") = e").append(alone).append("\nemails(0, -1) = e").append(alone).append("\nask(0, 0, 0, 1) = e");
            lines.append(alone).append("\nofMailbox(0, 1, 7) = 1\nundo(0, ").append(alone).append(") = 0\ndropEmail(0, ");
            lines.append(alone).append(") = 1\nrun(0) = ok ok\nchanges(0, 3, ").append(state + 1).append(", 1) = ");
            lines.append(state + 2).append(" ~s").append(alone).append("\nthreads(0) =\n");
            next++;
            state += 2;
        }
        Runs.run("IDS 63, 64, 65 and 128", lines.toString());
    }

    private static void blobs() {
        Runs.run("BLOB: SIZE (1 to 99), FROM (0 to 9), SUBJECT (0 to 9), MESSAGE (1 to 99), REPLY (0 to 99)", """
            upload(0, 1, 0, 0, 1, 0) = 1
            upload(0, 99, 9, 9, 99, 99) = 2
            newMailbox(0, 0, -1, 0, 0) = 0
            newEmail(0, 1, -2, 0, 0) = 1
            newEmail(0, 2, -2, 63, 9999) = 2
            run(0) = m1 e1 e2
            ofEmail(0, 1, 0) = 1
            ofEmail(0, 1, 1) = 0
            ofEmail(0, 1, 2) = 0
            ofEmail(0, 1, 5) = 1
            ofEmail(0, 1, 6) = 0
            ofEmail(0, 1, 7) = 0
            ofEmail(0, 1, 8) = 1
            ofEmail(0, 1, 9) = 0
            ofEmail(0, 2, 0) = 2
            ofEmail(0, 2, 1) = 9999
            ofEmail(0, 2, 2) = 63
            ofEmail(0, 2, 5) = 99
            ofEmail(0, 2, 6) = 9
            ofEmail(0, 2, 7) = 9
            ofEmail(0, 2, 8) = 99
            ofEmail(0, 2, 9) = 99
            """);
    }

    private static void mailboxes() {
        Runs.run("MAILBOX: at most 8 at a time", """
            newMailbox(0, 0, -1, 0, 0) = 0
            newMailbox(0, 1, -1, 0, 0) = 1
            newMailbox(0, 2, -1, 0, 0) = 2
            newMailbox(0, 3, -1, 0, 0) = 3
            newMailbox(0, 4, -1, 0, 0) = 4
            newMailbox(0, 5, -1, 0, 0) = 5
            newMailbox(0, 6, -1, 0, 0) = 6
            newMailbox(0, 7, -1, 0, 0) = 7
            run(0) = m1 m2 m3 m4 m5 m6 m7 m8
            newMailbox(0, 8, -1, 0, 0) = 0
            run(0) = many
            ofAccount(0, 5) = 8
            house(2) = 1
            state(0, 0) = 1
            newMailbox(1, 8, -1, 0, 0) = 0
            run(1) = m1
            dropMailbox(0, 5, false) = 0
            newMailbox(0, 8, -1, 0, 0) = 1
            newMailbox(0, 9, -1, 0, 0) = 2
            run(0) = ok m9 many
            ofAccount(0, 5) = 8
            mailboxes(0) = m1 m2 m3 m4 m6 m7 m8 m9
            dropMailbox(0, 9, false) = 0
            dropMailbox(0, 1, false) = 1
            run(0) = ok ok
            newMailbox(0, 10, -1, 0, 0) = 0
            newMailbox(0, 11, -1, 0, 0) = 1
            newMailbox(0, 12, -1, 0, 0) = 2
            run(0) = m10 m11 many
            """);
        Runs.run("MAILBOX: no two have the same NAME and the same PARENT", """
            newMailbox(0, 4, -1, 0, 0) = 0
            newMailbox(0, 4, -1, 0, 5) = 1
            newMailbox(0, 4, -2, 0, 0) = 2
            newMailbox(0, 4, -2, 0, 0) = 3
            newMailbox(0, 5, -1, 0, 0) = 4
            newMailbox(0, 4, -6, 0, 0) = 5
            newMailbox(1, 4, -1, 0, 0) = 0
            run(0) = m1 taken m2 taken m3 m4
            run(1) = m1
            changeMailbox(0, 4, 1, 1) = 0
            changeMailbox(0, 4, 1, -1) = 1
            changeMailbox(0, 3, 0, 4) = 2
            changeMailbox(0, 3, 0, 5) = 3
            changeMailbox(0, 4, 1, 3) = 4
            changeMailbox(0, 4, 0, 6) = 5
            changeMailbox(0, 4, 1, 1) = 6
            changeMailbox(0, 4, 0, 4) = 7
            run(0) = taken taken taken ok ok ok ok taken
            dropMailbox(0, 2, false) = 0
            changeMailbox(0, 4, 0, 4) = 1
            run(0) = ok ok
            path(0, 4) = 4/4
            """);
        Runs.run("MAILBOX: a ROLE but 0 only one has", """
            newMailbox(0, 1, -1, 1, 0) = 0
            newMailbox(0, 2, -1, 2, 0) = 1
            newMailbox(0, 3, -1, 3, 0) = 2
            newMailbox(0, 4, -1, 4, 0) = 3
            newMailbox(0, 5, -1, 5, 0) = 4
            newMailbox(0, 6, -1, 0, 0) = 5
            newMailbox(0, 7, -1, 0, 0) = 6
            newMailbox(0, 8, -1, 5, 0) = 7
            run(0) = m1 m2 m3 m4 m5 m6 m7 taken
            changeMailbox(0, 6, 2, 1) = 0
            changeMailbox(0, 6, 2, 2) = 1
            changeMailbox(0, 6, 2, 3) = 2
            changeMailbox(0, 6, 2, 4) = 3
            changeMailbox(0, 6, 2, 5) = 4
            changeMailbox(0, 6, 2, 0) = 5
            changeMailbox(0, 1, 2, 1) = 6
            changeMailbox(0, 1, 2, 0) = 7
            run(0) = taken taken taken taken taken ok ok ok
            inRole(0, 1) = -1
            inRole(0, 0) = 1
            changeMailbox(0, 6, 2, 1) = 0
            changeMailbox(0, 1, 2, 1) = 1
            newMailbox(0, 8, -1, 1, 0) = 2
            newMailbox(1, 1, -1, 1, 0) = 0
            run(0) = ok taken taken
            run(1) = m1
            inRole(0, 1) = 6
            inRole(1, 1) = 1
            inRole(0, 5) = 5
            dropMailbox(0, 6, false) = 0
            newMailbox(0, 8, -1, 1, 0) = 1
            run(0) = ok m8
            inRole(0, 1) = 8
            """);
        Runs.run("MAILBOX: DEPTH is at most 3, of it and of those under it", """
            newMailbox(0, 0, -1, 0, 0) = 0
            newMailbox(0, 1, -2, 0, 0) = 1
            newMailbox(0, 2, -3, 0, 0) = 2
            newMailbox(0, 3, -4, 0, 0) = 3
            newMailbox(0, 3, -3, 0, 0) = 4
            newMailbox(0, 4, -1, 0, 0) = 5
            newMailbox(0, 5, -7, 0, 0) = 6
            run(0) = m1 m2 m3 deep m4 m5 m6
            ofMailbox(0, 1, 4) = 1
            ofMailbox(0, 2, 4) = 2
            ofMailbox(0, 3, 4) = 3
            ofMailbox(0, 4, 4) = 3
            changeMailbox(0, 5, 1, 3) = 0
            changeMailbox(0, 5, 1, 2) = 1
            changeMailbox(0, 5, 1, 1) = 2
            changeMailbox(0, 6, 1, 3) = 3
            changeMailbox(0, 6, 1, 2) = 4
            changeMailbox(0, 5, 1, 2) = 5
            run(0) = deep deep ok deep ok ok
            ofMailbox(0, 5, 4) = 3
            ofMailbox(0, 6, 4) = 3
            """);
        Runs.run("MAILBOX: DEPTH, where those above came behind those under them", """
            newMailbox(0, 0, -1, 0, 0) = 0
            newMailbox(0, 1, -1, 0, 0) = 1
            newMailbox(0, 2, -1, 0, 0) = 2
            newMailbox(0, 3, -1, 0, 0) = 3
            changeMailbox(0, -2, 1, -3) = 4
            changeMailbox(0, -3, 1, -4) = 5
            changeMailbox(0, -4, 1, -5) = 6
            newMailbox(0, 4, -2, 0, 0) = 7
            run(0) = m1 m2 m3 m4 ok ok deep deep
            path(0, 1) = 2/1/0
            changeMailbox(0, 2, 1, 4) = 0
            run(0) = ok
            path(0, 1) = 3/1/0
            changeMailbox(0, 4, 1, 3) = 0
            changeMailbox(0, 2, 1, 3) = 1
            changeMailbox(0, 4, 1, 3) = 2
            changeMailbox(0, 1, 1, 4) = 3
            run(0) = deep ok ok ok
            path(0, 1) = 2/3/0
            """);
    }

    private static void emails() {
        Runs.run("EMAIL: it is UNREAD, if it is neither seen nor draft", """
            upload(0, 1, 0, 0, 1, 0) = 1
            newMailbox(0, 0, -1, 0, 0) = 0
            run(0) = m1
            newEmail(0, 1, 1, 0, 0) = 0
            newEmail(0, 1, 1, 1, 0) = 1
            newEmail(0, 1, 1, 2, 0) = 2
            newEmail(0, 1, 1, 3, 0) = 3
            newEmail(0, 1, 1, 60, 0) = 4
            newEmail(0, 1, 1, 61, 0) = 5
            newEmail(0, 1, 1, 62, 0) = 6
            newEmail(0, 1, 1, 63, 0) = 7
            run(0) = e1 e2 e3 e4 e5 e6 e7 e8
            ofEmail(0, 1, 10) = 1
            ofEmail(0, 2, 10) = 0
            ofEmail(0, 3, 10) = 0
            ofEmail(0, 4, 10) = 0
            ofEmail(0, 5, 10) = 1
            ofEmail(0, 6, 10) = 0
            ofEmail(0, 7, 10) = 0
            ofEmail(0, 8, 10) = 0
            ofMailbox(0, 1, 6) = 2
            changeEmail(0, 4, 1, 0) = 0
            changeEmail(0, 3, 1, 1) = 1
            changeEmail(0, 1, 0, 5) = 2
            run(0) = ok ok ok
            ofEmail(0, 4, 10) = 0
            ofEmail(0, 3, 10) = 1
            ofEmail(0, 1, 10) = 1
            ofMailbox(0, 1, 6) = 3
            """);
        StringBuilder lines = new StringBuilder("upload(0, 1, 0, 0, 1, 0) = 1\nnewMailbox(0, 0, -1, 0, 0) = 0\nrun(0) = m1\n");
        for (int row = 0; row < 5; row++) {
            StringBuilder answer = new StringBuilder();
            for (int step = 0; step < 8; step++) {
                lines.append("newEmail(0, 1, 1, 0, 0) = ").append(step).append('\n');
                answer.append(" e").append(row * 8 + step + 1);
            }
            lines.append("run(0) =").append(answer).append('\n');
        }
        lines.append("""
            ofAccount(0, 6) = 40
            newEmail(0, 1, 1, 0, 0) = 0
            run(0) = many
            ofAccount(0, 6) = 40
            state(0, 1) = 5
            house(2) = 7
            dropEmail(0, 3) = 0
            newEmail(0, 1, 1, 0, 0) = 1
            newEmail(0, 1, 1, 0, 0) = 2
            run(0) = ok e41 many
            dropEmail(0, 41) = 0
            dropEmail(0, 1) = 1
            run(0) = ok ok
            newEmail(0, 1, 1, 0, 0) = 0
            newEmail(0, 1, 1, 0, 0) = 1
            newEmail(0, 1, 1, 0, 0) = 2
            run(0) = e42 e43 many
            upload(1, 1, 0, 0, 1, 0) = 1
            newMailbox(1, 0, -1, 0, 0) = 0
            newEmail(1, 1, -2, 0, 0) = 1
            run(1) = m1 e1
            ofAccount(0, 6) = 40
            """);
        Runs.run("EMAIL: at most 40 at a time", lines.toString());
        Runs.run("USED: the sum of SIZES of all EMAILS; QUOTA: 400 at first", """
            upload(0, 99, 0, 0, 1, 0) = 1
            upload(0, 4, 0, 0, 1, 0) = 2
            upload(0, 1, 0, 0, 1, 0) = 3
            ofAccount(0, 3) = 0
            newMailbox(0, 0, -1, 0, 0) = 0
            newMailbox(0, 1, -1, 0, 0) = 1
            newEmail(0, 1, -2, 0, 0) = 2
            newEmail(0, 1, -2, 0, 0) = 3
            newEmail(0, 1, -2, 0, 0) = 4
            newEmail(0, 1, -2, 0, 0) = 5
            newEmail(0, 2, -2, 0, 0) = 6
            newEmail(0, 3, -2, 0, 0) = 7
            run(0) = m1 m2 e1 e2 e3 e4 e5 quota
            ofAccount(0, 3) = 400
            changeEmail(0, 1, 2, 2) = 0
            run(0) = ok
            ofAccount(0, 3) = 400
            dropEmail(0, 5) = 0
            newEmail(0, 3, 1, 0, 0) = 1
            newEmail(0, 3, 1, 0, 0) = 2
            newEmail(0, 3, 1, 0, 0) = 3
            newEmail(0, 3, 1, 0, 0) = 4
            newEmail(0, 3, 1, 0, 0) = 5
            run(0) = ok e6 e7 e8 e9 quota
            ofAccount(0, 3) = 400
            quota(0, 399) = 400
            ofAccount(0, 3) = 400
            changeEmail(0, 1, 0, 0) = 0
            dropEmail(0, 9) = 1
            newEmail(0, 3, 1, 0, 0) = 2
            run(0) = ok ok quota
            ofAccount(0, 3) = 399
            quota(0, 400) = 399
            newEmail(0, 3, 1, 0, 0) = 0
            newEmail(0, 3, 1, 0, 0) = 1
            run(0) = e10 quota
            ofAccount(1, 3) = 0
            ofAccount(1, 4) = 400
            """);
    }

    private static void threads() {
        Runs.run("THREAD: the same SUBJECT and, beside that, one of these four; otherwise a new one", """
            upload(0, 1, 0, 1, 10, 20) = 1
            upload(0, 1, 0, 1, 10, 0) = 2
            upload(0, 1, 0, 1, 30, 10) = 3
            upload(0, 1, 0, 1, 20, 0) = 4
            upload(0, 1, 0, 1, 40, 20) = 5
            upload(0, 1, 0, 2, 10, 0) = 6
            upload(0, 1, 0, 2, 30, 10) = 7
            upload(0, 1, 0, 2, 20, 0) = 8
            upload(0, 1, 0, 2, 40, 20) = 9
            upload(0, 1, 0, 1, 50, 60) = 10
            upload(0, 1, 0, 1, 50, 0) = 11
            upload(0, 1, 0, 1, 51, 0) = 12
            newMailbox(0, 0, -1, 0, 0) = 0
            newEmail(0, 1, -2, 0, 0) = 1
            newEmail(0, 2, -2, 0, 0) = 2
            run(0) = m1 e1 e2
            ofEmail(0, 2, 4) = 1
            dropEmail(0, 2) = 0
            newEmail(0, 3, 1, 0, 0) = 1
            run(0) = ok e3
            ofEmail(0, 3, 4) = 1
            dropEmail(0, 3) = 0
            newEmail(0, 4, 1, 0, 0) = 1
            run(0) = ok e4
            ofEmail(0, 4, 4) = 1
            dropEmail(0, 4) = 0
            newEmail(0, 5, 1, 0, 0) = 1
            run(0) = ok e5
            ofEmail(0, 5, 4) = 1
            dropEmail(0, 5) = 0
            newEmail(0, 6, 1, 0, 0) = 1
            run(0) = ok e6
            ofEmail(0, 6, 4) = 2
            dropEmail(0, 6) = 0
            newEmail(0, 7, 1, 0, 0) = 1
            run(0) = ok e7
            ofEmail(0, 7, 4) = 3
            dropEmail(0, 7) = 0
            newEmail(0, 8, 1, 0, 0) = 1
            run(0) = ok e8
            ofEmail(0, 8, 4) = 4
            dropEmail(0, 8) = 0
            newEmail(0, 9, 1, 0, 0) = 1
            run(0) = ok e9
            ofEmail(0, 9, 4) = 5
            dropEmail(0, 9) = 0
            newEmail(0, 10, 1, 0, 0) = 1
            run(0) = ok e10
            ofEmail(0, 10, 4) = 6
            dropEmail(0, 10) = 0
            newEmail(0, 11, 1, 0, 0) = 1
            run(0) = ok e11
            ofEmail(0, 11, 4) = 7
            newEmail(0, 12, 1, 0, 0) = 0
            run(0) = e12
            ofEmail(0, 12, 4) = 8
            threads(0) = t1 t7 t8
            """);
        Runs.run("THREAD: the smallest one of those of the EMAILS that are there; never joined", """
            upload(0, 1, 0, 1, 10, 0) = 1
            upload(0, 1, 0, 1, 20, 0) = 2
            upload(0, 1, 0, 1, 20, 10) = 3
            upload(1, 1, 0, 1, 20, 10) = 1
            newMailbox(0, 0, -1, 0, 0) = 0
            newEmail(0, 2, -2, 0, 0) = 1
            newEmail(0, 1, -2, 0, 0) = 2
            newEmail(0, 3, -2, 0, 0) = 3
            run(0) = m1 e1 e2 e3
            ofEmail(0, 1, 4) = 1
            ofEmail(0, 2, 4) = 2
            ofEmail(0, 3, 4) = 1
            threads(0) = t1 t2
            dropEmail(0, 1) = 0
            newEmail(0, 3, 1, 0, 0) = 1
            run(0) = ok e4
            ofEmail(0, 4, 4) = 1
            dropEmail(0, 3) = 0
            dropEmail(0, 4) = 1
            newEmail(0, 3, 1, 0, 0) = 2
            run(0) = ok ok e5
            ofEmail(0, 5, 4) = 2
            threads(0) = t2
            newMailbox(1, 0, -1, 0, 0) = 0
            newEmail(1, 1, -2, 0, 0) = 1
            run(1) = m1 e1
            threads(1) = t1
            """);
        Runs.run("THREAD: it is there as long as it has EMAILS; they stand by RECEIVED, then by IDS", """
            upload(0, 1, 0, 0, 1, 0) = 1
            newMailbox(0, 0, -1, 0, 0) = 0
            newEmail(0, 1, -2, 0, 9) = 1
            newEmail(0, 1, -2, 0, 9999) = 2
            newEmail(0, 1, -2, 0, 0) = 3
            newEmail(0, 1, -2, 0, 9) = 4
            newEmail(0, 1, -2, 0, 0) = 5
            run(0) = m1 e1 e2 e3 e4 e5
            thread(0, 1) = e3 e5 e1 e4 e2
            dropEmail(0, 1) = 0
            dropEmail(0, 3) = 1
            dropEmail(0, 4) = 2
            dropEmail(0, 5) = 3
            run(0) = ok ok ok ok
            threads(0) = t1
            thread(0, 1) = e2
            ofAccount(0, 7) = 1
            dropEmail(0, 2) = 0
            run(0) = ok
            threads(0) =
            thread(0, 1) =
            ofAccount(0, 7) = 0
            newEmail(0, 1, 1, 0, 9) = 0
            run(0) = e6
            threads(0) = t2
            """);
        Runs.run("THREAD: an EMAIL that goes ahead in the same REQUEST is no kin, one that came ahead is", """
            upload(0, 1, 0, 0, 1, 0) = 1
            newMailbox(0, 0, -1, 0, 0) = 0
            newEmail(0, 1, -2, 0, 0) = 1
            dropEmail(0, -3) = 2
            newEmail(0, 1, -2, 0, 0) = 3
            newEmail(0, 1, -2, 0, 0) = 4
            run(0) = m1 e1 ok e2 e3
            thread(0, 2) = e2 e3
            threads(0) = t2
            """);
    }

    private static void counts() {
        Runs.run("COUNTS: EMAILS, UNREAD ones, THREADS, those of these that have an UNREAD one anywhere", """
            upload(0, 1, 0, 0, 1, 0) = 1
            upload(0, 1, 0, 1, 1, 0) = 2
            newMailbox(0, 0, -1, 0, 0) = 0
            newMailbox(0, 1, -1, 0, 0) = 1
            run(0) = m1 m2
            ofMailbox(0, 1, 5) = 0
            ofMailbox(0, 1, 6) = 0
            ofMailbox(0, 1, 7) = 0
            ofMailbox(0, 1, 8) = 0
            newEmail(0, 1, 1, 1, 0) = 0
            newEmail(0, 1, 1, 2, 0) = 1
            newEmail(0, 2, 1, 1, 0) = 2
            newEmail(0, 1, 2, 0, 0) = 3
            run(0) = e1 e2 e3 e4
            ofMailbox(0, 1, 5) = 3
            ofMailbox(0, 1, 6) = 0
            ofMailbox(0, 1, 7) = 2
            ofMailbox(0, 1, 8) = 1
            ofMailbox(0, 2, 5) = 1
            ofMailbox(0, 2, 6) = 1
            ofMailbox(0, 2, 7) = 1
            ofMailbox(0, 2, 8) = 1
            changeEmail(0, 3, 2, 2) = 0
            changeEmail(0, 3, 1, 0) = 1
            run(0) = ok ok
            ofMailbox(0, 1, 6) = 1
            ofMailbox(0, 1, 8) = 2
            ofMailbox(0, 2, 5) = 2
            ofMailbox(0, 2, 6) = 2
            ofMailbox(0, 2, 7) = 2
            ofMailbox(0, 2, 8) = 2
            dropEmail(0, 4) = 0
            run(0) = ok
            ofMailbox(0, 1, 5) = 3
            ofMailbox(0, 1, 8) = 1
            ofMailbox(0, 2, 7) = 1
            """);
    }

    private static void calls() {
        StringBuilder blobs = new StringBuilder();
        for (int call = 1; call <= 509; call++) {
            blobs.append("upload(0, 99, 9, 9, 99, 99) = ").append(call).append('\n');
        }
        blobs.append("ofAccount(0, 8) = 509\nsweep(0) = 509\n");
        Runs.run("an object is used for at most 512 calls: BLOBS", blobs.toString());
        Calls calls = new Calls(new Mailroom());
        for (int call = 1; call <= 512; call++) {
            Runs.due("the 512th call: upload " + call, calls.answer("upload(0, 1, 0, 0, 1, 0)"), Integer.toString(call));
        }
        StringBuilder submissions = new StringBuilder("""
            upload(0, 1, 0, 0, 1, 0) = 1
            newMailbox(0, 0, -1, 0, 0) = 0
            newEmail(0, 1, -2, 0, 0) = 1
            run(0) = m1 e1
            """);
        for (int row = 0; row < 56; row++) {
            StringBuilder answer = new StringBuilder();
            for (int step = 0; step < 8; step++) {
                submissions.append("submit(0, 1, 2, 0) = ").append(step).append('\n');
                answer.append(" s").append(row * 8 + step + 1);
            }
            submissions.append("run(0) =").append(answer).append('\n');
        }
        submissions.append("clock(0) = 448\nhouse(7) = 448\nstate(0, 3) = 504\n");
        Runs.run("an object is used for at most 512 calls: SUBMISSIONS", submissions.toString());
    }
}
