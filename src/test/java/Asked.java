/** Promises about what is asked, and about the whole. */
final class Asked {
    private static final String MAILS = """
        upload(0, 5, 3, 0, 1, 0) = 1
        upload(0, 4, 2, 0, 9, 1) = 2
        upload(0, 3, 1, 1, 8, 7) = 3
        newMailbox(0, 3, -1, 0, 1) = 0
        newMailbox(0, 2, -2, 1, 1) = 1
        newMailbox(0, 2, -3, 5, 0) = 2
        newMailbox(0, 2, -1, 0, 1) = 3
        newEmail(0, 1, -2, 0, 30) = 4
        newEmail(0, 2, -3, 1, 20) = 5
        newEmail(0, 3, -3, 61, 30) = 6
        changeEmail(0, -7, 2, -2) = 7
        run(0) = m1 m2 m3 m4 e1 e2 e3 ok
        """;

    private Asked() {
    }

    static void all() {
        Runs.run("30 mailboxes, 31 ofMailbox, 32 path, 33 inRole", MAILS + """
            mailboxes(2) = I
            mailboxes(-1) = I
            mailboxes(0) = m3 m2 m4 m1
            mailboxes(1) =
            ofMailbox(2, 1, 99) = I
            ofMailbox(-1, 1, 0) = I
            ofMailbox(0, 1, -1) = A
            ofMailbox(0, 9, 10) = A
            ofMailbox(0, 9, 0) = -9
            ofMailbox(0, 0, 0) = -9
            ofMailbox(0, -1, 0) = -9
            ofMailbox(0, -2147483648, 0) = -9
            ofMailbox(0, 2147483647, 9) = -9
            ofMailbox(1, 1, 0) = -9
            ofMailbox(0, 2, 0) = 2
            ofMailbox(0, 1, 1) = -1
            ofMailbox(0, 2, 1) = 1
            ofMailbox(0, 3, 1) = 2
            ofMailbox(0, 3, 2) = 5
            ofMailbox(0, 3, 3) = 0
            ofMailbox(0, 1, 3) = 1
            ofMailbox(0, 1, 4) = 1
            ofMailbox(0, 2, 4) = 2
            ofMailbox(0, 3, 4) = 3
            ofMailbox(0, 1, 5) = 2
            ofMailbox(0, 2, 5) = 2
            ofMailbox(0, 1, 6) = 1
            ofMailbox(0, 2, 6) = 0
            ofMailbox(0, 1, 7) = 1
            ofMailbox(0, 2, 7) = 2
            ofMailbox(0, 1, 8) = 1
            ofMailbox(0, 2, 8) = 1
            ofMailbox(0, 3, 8) = 0
            ofMailbox(0, 1, 9) = 1
            ofMailbox(0, 3, 9) = 0
            path(2, 1) = I
            path(-1, 1) = I
            path(0, 1) = 3
            path(0, 2) = 3/2
            path(0, 3) = 3/2/2
            path(0, 4) = 2
            path(0, 5) =
            path(0, 0) =
            path(0, -1) =
            path(0, -2147483648) =
            inRole(2, 9) = I
            inRole(-1, 0) = I
            inRole(0, -1) = A
            inRole(0, 6) = A
            inRole(0, 0) = 1
            inRole(0, 1) = 2
            inRole(0, 2) = -1
            inRole(0, 5) = 3
            inRole(1, 0) = -1
            """);
        Runs.run("34 emails, 35 ofEmail, 36 where", MAILS + """
            emails(2, -1) = I
            emails(-1, -1) = I
            emails(0, -1) = e1 e2 e3
            emails(0, 1) = e1 e2
            emails(0, 2) = e2 e3
            emails(0, 3) =
            emails(0, 9) =
            emails(0, 0) =
            emails(0, -2) =
            emails(1, -1) =
            ofEmail(2, 1, 99) = I
            ofEmail(-1, 1, 0) = I
            ofEmail(0, 1, -1) = A
            ofEmail(0, 9, 11) = A
            ofEmail(0, 4, 0) = -9
            ofEmail(0, 0, 0) = -9
            ofEmail(0, -1, 10) = -9
            ofEmail(1, 1, 10) = -9
            ofEmail(0, 3, 0) = 3
            ofEmail(0, 3, 1) = 30
            ofEmail(0, 3, 2) = 61
            ofEmail(0, 3, 3) = 1
            ofEmail(0, 2, 3) = 2
            ofEmail(0, 2, 4) = 1
            ofEmail(0, 3, 4) = 2
            ofEmail(0, 3, 5) = 3
            ofEmail(0, 3, 6) = 1
            ofEmail(0, 3, 7) = 1
            ofEmail(0, 3, 8) = 8
            ofEmail(0, 3, 9) = 7
            ofEmail(0, 3, 10) = 0
            ofEmail(0, 1, 10) = 1
            changeEmail(0, 1, 0, 1) = 0
            changeEmail(0, 3, 1, 0) = 1
            run(0) = ok ok
            ofEmail(0, 1, 10) = 0
            ofEmail(0, 3, 10) = 1
            where(2, 1) = I
            where(-1, 1) = I
            where(0, 1) = m1
            where(0, 2) = m1 m2
            where(0, 4) =
            where(0, 0) =
            where(0, -1) =
            where(1, 1) =
            """);
        Runs.run("37 threads, 38 thread, 39 blobs, 40 submissions, 41 ofSubmission", MAILS + """
            threads(2) = I
            threads(-1) = I
            threads(0) = t1 t2
            threads(1) =
            thread(2, 1) = I
            thread(-1, 1) = I
            thread(0, 1) = e2 e1
            thread(0, 2) = e3
            thread(0, 3) =
            thread(0, 0) =
            thread(0, -1) =
            blobs(2) = I
            blobs(-1) = I
            blobs(0) = b1 b2 b3
            blobs(1) =
            submissions(2) = I
            submissions(-1) = I
            submissions(0) =
            submit(0, 2, 1, 77) = 0
            submit(0, 3, 2, 0) = 1
            undo(0, -2) = 2
            dropEmail(0, 2) = 3
            run(0) = s1 s2 ok ok
            submissions(0) = s1:2 s2:0
            ofSubmission(2, 1, 9) = I
            ofSubmission(-1, 1, 0) = I
            ofSubmission(0, 1, -1) = A
            ofSubmission(0, 9, 4) = A
            ofSubmission(0, 3, 0) = -9
            ofSubmission(0, 0, 0) = -9
            ofSubmission(0, -1, 3) = -9
            ofSubmission(1, 1, 3) = -9
            ofSubmission(0, 1, 0) = 2
            ofSubmission(0, 1, 1) = 1
            ofSubmission(0, 1, 2) = 77
            ofSubmission(0, 1, 3) = 2
            ofSubmission(0, 2, 3) = 0
            thread(0, 1) = e1
            """);
        Runs.run("42 ofAccount, 43 answer, 44 house", MAILS + """
            ofAccount(2, 99) = I
            ofAccount(-1, 0) = I
            ofAccount(0, -1) = A
            ofAccount(0, 11) = A
            ofAccount(0, 3) = 12
            ofAccount(0, 4) = 400
            ofAccount(0, 5) = 4
            ofAccount(0, 6) = 3
            ofAccount(0, 7) = 2
            ofAccount(0, 8) = 3
            ofAccount(0, 9) = 0
            ofAccount(0, 10) = 0
            submit(0, 2, 2, 77) = 0
            bind(0, 1, 1) = 1
            ofAccount(0, 0) = 1
            ofAccount(0, 1) = 1
            ofAccount(0, 2) = 1
            ofAccount(1, 0) = 0
            run(0) = s1
            ofAccount(0, 9) = 1
            ofAccount(0, 10) = 1
            answer(2) = I
            answer(-1) = I
            answer(0) = s1
            answer(1) =
            fall() = 5
            answer(0) = s1
            house(-1) = A
            house(11) = A
            house(0) = 0
            house(1) = 0
            house(2) = 5
            house(3) = 0
            house(4) = 1
            house(5) = 2
            house(6) = 0
            house(7) = 0
            house(8) = 0
            house(9) = 0
            house(10) = 0
            clock(77) = 1
            undo(0, 1) = 0
            submit(0, 1, 0, 80) = 1
            submit(0, 1, 1, 80) = 2
            submit(0, 1, 1, 80) = 3
            undo(0, -5) = 4
            run(0) = sent s2 s3 s4 ok
            clock(3) = 2
            house(7) = 2
            house(8) = 1
            house(9) = 1
            run(0) =
            answer(0) =
            """);
        Runs.run("44 house, of both accounts", """
            upload(0, 1, 0, 0, 1, 0) = 1
            upload(1, 1, 0, 0, 1, 0) = 1
            newMailbox(0, 0, -1, 0, 0) = 0
            newEmail(0, 1, -2, 0, 0) = 1
            submit(0, -3, 2, 0) = 2
            submit(0, -3, 0, 0) = 3
            submit(0, -3, 2, 0) = 4
            undo(0, -6) = 5
            run(0) = m1 e1 s1 s2 s3 ok
            newMailbox(1, 0, -1, 0, 0) = 0
            newEmail(1, 1, -2, 0, 0) = 1
            submit(1, -3, 2, 0) = 2
            submit(1, -3, 2, 0) = 3
            submit(1, -3, 0, 0) = 4
            submit(1, -3, 2, 0) = 5
            undo(1, -7) = 6
            run(1) = m1 e1 s1 s2 s3 s4 ok
            clock(0) = 5
            house(7) = 3
            house(8) = 2
            house(9) = 2
            total(0, 1) = 1
            """);
        digested();
        Runs.run("45 isSound, 46 digest", """
            isSound() = 1
            digest() = -6015850431804720420
            isSound() = 1
            knock() = 1
            digest() = 1625852174985810427
            """);
    }

    private static void digested() {
        digested("at first", "");
        digested("with things of all kinds", MAILS + """
            sequence(1, 2, true, true) = 0
            filter(2, 2, -1, -1, -1, -1) = 1
            submit(0, 2, 2, 5) = 0
            submit(0, 3, 1, 90) = 1
            bind(0, 3, 0) = 0
            run(0) = s1 s2
            newMailbox(1, 7, -1, 1, 3) = 0
            run(1) = m1
            knock() = 1
            clock(95) = 2
            fall() = 8
            arm(true) = 0
            newMailbox(1, 8, -1, 0, 3) = 0
            bind(1, 2, 6) = 1
            """);
        digested("behind what is torn", MAILS + """
            arm(true) = 0
            quota(1, 3) = -9
            newMailbox(0, 9, -1, 0, 0) = 0
            bind(0, 0, 0) = 1
            run(0) = state
            """);
        StringBuilder lines = new StringBuilder(MAILS);
        for (int round = 0; round < 24; round++) {
            lines.append("changeEmail(0, 1, ").append(round % 2).append(", 0) = 0\nchangeMailbox(0, 1, 3, ");
            lines.append(round % 2).append(") = 1\nrun(0) = ok ok\n");
        }
        digested("where the STATE 0 is not known any more", lines.toString());
    }

    /** The digest, added up from what the other methods answer. */
    private static void digested(String title, String lines) {
        Calls calls = new Calls(new Mailroom());
        for (String line : lines.split("\n")) {
            if (!line.isEmpty()) {
                calls.answer(line.substring(0, line.indexOf(" =")));
            }
        }
        long d = 7675;
        d = with(d, calls, "house(%d)", 11);
        for (int account = 0; account < 2; account++) {
            d = with(d, calls, "ofAccount(" + account + ", %d)", 11);
            d = with(d, calls, "state(" + account + ", %d)", 4);
            for (int id : ids(calls.answer("then(" + account + ", 0, " + calls.answer("state(" + account + ", 0)") + ")"))) {
                d = with(d * 31 + id, calls, "ofMailbox(" + account + ", " + id + ", %d)", 10);
            }
            for (int id : ids(calls.answer("emails(" + account + ", -1)"))) {
                d = with(d * 31 + id, calls, "ofEmail(" + account + ", " + id + ", %d)", 11);
                d = d * 31 + calls.answer("where(" + account + ", " + id + ")").length();
            }
            for (String row : new String[] {"mailboxes", "threads", "blobs", "submissions", "answer"}) {
                d = d * 31 + calls.answer(row + "(" + account + ")").length();
            }
            d = with(d, calls, "total(%d, " + account + ")", 4);
            for (int type = 0; type < 4; type++) {
                d = d * 31 + calls.answer("changes(" + account + ", " + type + ", 0, 99)").length();
            }
        }
        d = d * 31 + 1;
        Runs.due("46 digest " + title, calls.answer("digest()"), Long.toString(d));
    }

    private static long with(long sum, Calls calls, String call, int many) {
        long d = sum;
        for (int what = 0; what < many; what++) {
            d = d * 31 + Long.parseLong(calls.answer(String.format(call, what)));
        }
        return d;
    }

    private static int[] ids(String row) {
        String[] words = row.isEmpty() ? new String[0] : row.split(" ");
        int[] ids = new int[words.length];
        for (int k = 0; k < words.length; k++) {
            ids[k] = Integer.parseInt(words[k].substring(1));
        }
        return ids;
    }
}
