/** Sentences of "States, changes". */
final class BoundsOfStates {
    private BoundsOfStates() {
    }

    static void all() {
        first();
        mailboxes();
        counts();
        emails();
        threads();
        submissions();
        acts();
        known();
        numbers();
        kinds();
    }

    private static void first() {
        Runs.run("each ACCOUNT has a STATE of each TYPE (0 at first); since that of now there are none", """
            state(0, 0) = 0
            state(0, 1) = 0
            state(0, 2) = 0
            state(0, 3) = 0
            state(1, 0) = 0
            state(1, 1) = 0
            state(1, 2) = 0
            state(1, 3) = 0
            changes(0, 0, 0, 1) = 0
            changes(1, 3, 0, 99) = 0
            changes(0, 1, 1, 99) = cannot
            changes(0, 2, -1, 99) = cannot
            then(0, 0, 0) =
            then(1, 3, 0) =
            then(0, 1, 1) = cannot
            then(0, 2, -1) = cannot
            queryChanges(0, 0, 0) =
            queryChanges(0, 0, 1) = cannot
            queryChanges(0, 0, -1) = cannot
            """);
        Runs.run("what is no ACT leaves all STATES: BLOBS, QUOTAS, the CLOCK, falls, images, knocks, what is typed", """
            upload(0, 1, 0, 0, 1, 0) = 1
            quota(0, 1) = 400
            sweep(0) = 1
            clock(9) = 0
            fall() = 3
            image() = 3
            knock() = 1
            newMailbox(0, 0, -1, 0, 0) = 0
            bind(0, 0, 0) = 0
            clear(0) = 1
            run(0) =
            dropEmail(0, 1) = 0
            run(0) = notfound
            state(0, 0) = 0
            state(0, 1) = 0
            state(0, 2) = 0
            state(0, 3) = 0
            """);
    }

    private static void mailboxes() {
        Runs.run("a MAILBOX is CHANGED, if its NAME, PARENT, ROLE, ORDER is another, each alone", """
            newMailbox(0, 0, -1, 0, 0) = 0
            newMailbox(0, 1, -1, 0, 0) = 1
            run(0) = m1 m2
            state(0, 0) = 1
            changeMailbox(0, 1, 0, 5) = 0
            run(0) = ok
            changes(0, 0, 1, 9) = 2 ~m1
            changeMailbox(0, 1, 1, 2) = 0
            run(0) = ok
            changes(0, 0, 2, 9) = 3 ~m1
            changeMailbox(0, 1, 2, 3) = 0
            run(0) = ok
            changes(0, 0, 3, 9) = 4 ~m1
            changeMailbox(0, 1, 3, 9) = 0
            run(0) = ok
            changes(0, 0, 4, 9) = 5 ~m1
            changeMailbox(0, 1, 0, 5) = 0
            changeMailbox(0, 1, 1, 2) = 1
            changeMailbox(0, 1, 2, 3) = 2
            changeMailbox(0, 1, 3, 9) = 3
            run(0) = ok ok ok ok
            state(0, 0) = 5
            house(2) = 6
            house(5) = 6
            """);
        Runs.run("a MAILBOX is not CHANGED by its DEPTH, nor by those that have it as PARENT", """
            newMailbox(0, 0, -1, 0, 0) = 0
            newMailbox(0, 1, -1, 0, 0) = 1
            newMailbox(0, 2, -2, 0, 0) = 2
            run(0) = m1 m2 m3
            ofMailbox(0, 3, 4) = 2
            changeMailbox(0, 1, 1, 2) = 0
            run(0) = ok
            ofMailbox(0, 3, 4) = 3
            ofMailbox(0, 2, 9) = 1
            changes(0, 0, 1, 9) = 2 ~m1
            newMailbox(0, 5, 2, 0, 0) = 0
            run(0) = m4
            changes(0, 0, 2, 9) = 3 +m4
            dropMailbox(0, 4, false) = 0
            run(0) = ok
            changes(0, 0, 3, 9) = 4 -m4
            """);
    }

    private static void counts() {
        Runs.run("a MAILBOX is CHANGED, if one of its COUNTS is another, each alone", """
            upload(0, 1, 0, 0, 1, 0) = 1
            upload(0, 1, 0, 1, 1, 0) = 2
            newMailbox(0, 0, -1, 0, 0) = 0
            newMailbox(0, 1, -1, 0, 0) = 1
            newEmail(0, 1, -2, 0, 0) = 2
            run(0) = m1 m2 e1
            newEmail(0, 1, 1, 1, 0) = 0
            run(0) = e2
            changes(0, 0, 1, 9) = 2 ~m1
            ofMailbox(0, 1, 5) = 2
            ofMailbox(0, 1, 6) = 1
            ofMailbox(0, 1, 7) = 1
            ofMailbox(0, 1, 8) = 1
            changeEmail(0, 2, 1, 0) = 0
            run(0) = ok
            changes(0, 0, 2, 9) = 3 ~m1
            ofMailbox(0, 1, 5) = 2
            ofMailbox(0, 1, 6) = 2
            ofMailbox(0, 1, 7) = 1
            ofMailbox(0, 1, 8) = 1
            changeEmail(0, 2, 0, 0) = 0
            run(0) = ok
            dropEmail(0, 2) = 0
            newEmail(0, 2, 1, 1, 0) = 1
            run(0) = ok e3
            changes(0, 0, 4, 9) = 5 ~m1
            ofMailbox(0, 1, 5) = 2
            ofMailbox(0, 1, 6) = 1
            ofMailbox(0, 1, 7) = 2
            ofMailbox(0, 1, 8) = 1
            newEmail(0, 2, 2, 2, 0) = 0
            run(0) = e4
            changes(0, 0, 5, 9) = 6 ~m2
            changeEmail(0, 4, 1, 1) = 0
            run(0) = ok
            changes(0, 0, 6, 9) = 7 ~m1 ~m2
            ofMailbox(0, 1, 5) = 2
            ofMailbox(0, 1, 6) = 1
            ofMailbox(0, 1, 7) = 2
            ofMailbox(0, 1, 8) = 2
            """);
        Runs.run("a MAILBOX of which the COUNTS are the same is not CHANGED, though others are in it", """
            upload(0, 1, 0, 0, 1, 0) = 1
            upload(0, 1, 0, 1, 1, 0) = 2
            newMailbox(0, 0, -1, 0, 0) = 0
            newEmail(0, 1, -2, 0, 0) = 1
            run(0) = m1 e1
            dropEmail(0, 1) = 0
            newEmail(0, 2, 1, 0, 0) = 1
            run(0) = ok e2
            state(0, 0) = 1
            changes(0, 1, 1, 9) = 2 +e2 -e1
            changes(0, 2, 1, 9) = 2 +t2 -t1
            changeEmail(0, 2, 0, 2) = 0
            run(0) = ok
            state(0, 0) = 1
            state(0, 1) = 3
            state(0, 2) = 2
            """);
    }

    private static void emails() {
        Runs.run("an EMAIL is CHANGED, if its KEYWORDS or MAILBOXES are; not by what is so already, or is so again", """
            upload(0, 1, 0, 0, 1, 0) = 1
            newMailbox(0, 0, -1, 0, 0) = 0
            newMailbox(0, 1, -1, 0, 0) = 1
            newEmail(0, 1, -2, 0, 0) = 2
            run(0) = m1 m2 e1
            changeEmail(0, 1, 0, 5) = 0
            run(0) = ok
            changes(0, 1, 1, 9) = 2 ~e1
            changeEmail(0, 1, 0, 5) = 0
            changeEmail(0, 1, 1, 4) = 1
            changeEmail(0, 1, 2, 1) = 2
            changeEmail(0, 1, 3, 2) = 3
            run(0) = ok ok ok ok
            state(0, 1) = 2
            changeEmail(0, 1, 2, 2) = 0
            run(0) = ok
            changes(0, 1, 2, 9) = 3 ~e1
            changeEmail(0, 1, 3, 1) = 0
            run(0) = ok
            changes(0, 1, 3, 9) = 4 ~e1
            changeEmail(0, 1, 2, 1) = 0
            changeEmail(0, 1, 3, 1) = 1
            changeEmail(0, 1, 1, 5) = 2
            changeEmail(0, 1, 0, 5) = 3
            run(0) = ok ok ok ok
            state(0, 1) = 4
            state(0, 0) = 3
            changeEmail(0, 1, 2, 1) = 0
            run(0) = ok
            dropMailbox(0, 1, true) = 0
            run(0) = ok
            changes(0, 1, 5, 9) = 6 ~e1
            changes(0, 0, 4, 9) = 5 -m1
            newEmail(0, 1, 2, 0, 0) = 0
            changeEmail(0, -2, 0, 3) = 1
            run(0) = e2 ok
            changes(0, 1, 6, 9) = 7 +e2
            newEmail(0, 1, 2, 0, 0) = 0
            changeEmail(0, -2, 0, 3) = 1
            dropEmail(0, -2) = 2
            run(0) = e3 ok ok
            state(0, 1) = 7
            changeEmail(0, 1, 0, 2) = 0
            dropEmail(0, 1) = 1
            run(0) = ok ok
            changes(0, 1, 7, 9) = 8 -e1
            """);
    }

    private static void threads() {
        Runs.run("a THREAD is CHANGED, if the set of its EMAILS is", """
            upload(0, 1, 0, 0, 1, 0) = 1
            newMailbox(0, 0, -1, 0, 0) = 0
            newEmail(0, 1, -2, 0, 0) = 1
            run(0) = m1 e1
            state(0, 2) = 1
            newEmail(0, 1, 1, 0, 0) = 0
            run(0) = e2
            changes(0, 2, 1, 9) = 2 ~t1
            dropEmail(0, 1) = 0
            run(0) = ok
            changes(0, 2, 2, 9) = 3 ~t1
            newEmail(0, 1, 1, 0, 0) = 0
            dropEmail(0, 2) = 1
            run(0) = e3 ok
            changes(0, 2, 3, 9) = 4 ~t1
            changeEmail(0, 3, 0, 0) = 0
            run(0) = ok
            state(0, 2) = 4
            newEmail(0, 1, 1, 0, 0) = 0
            dropEmail(0, -2) = 1
            run(0) = e4 ok
            state(0, 2) = 4
            dropEmail(0, 3) = 0
            run(0) = ok
            changes(0, 2, 4, 9) = 5 -t1
            newEmail(0, 1, 1, 0, 0) = 0
            dropEmail(0, -2) = 1
            run(0) = e5 ok
            state(0, 2) = 5
            newEmail(0, 1, 1, 0, 0) = 0
            newEmail(0, 1, 1, 0, 0) = 1
            dropEmail(0, -2) = 2
            run(0) = e6 e7 ok
            changes(0, 2, 5, 9) = 6 +t3
            """);
    }

    private static void submissions() {
        Runs.run("a SUBMISSION is CHANGED, if how it is is; one that came and was undone in one ACT came", """
            upload(0, 1, 0, 0, 1, 0) = 1
            newMailbox(0, 0, -1, 0, 0) = 0
            newEmail(0, 1, -2, 0, 0) = 1
            submit(0, -3, 2, 5) = 2
            submit(0, -3, 0, 6) = 3
            submit(0, -3, 2, 7) = 4
            undo(0, -6) = 5
            run(0) = m1 e1 s1 s2 s3 ok
            changes(0, 3, 0, 9) = 1 +s1 +s2 +s3
            submissions(0) = s1:0 s2:0 s3:2
            dropEmail(0, 1) = 0
            run(0) = ok
            state(0, 3) = 1
            clock(5) = 1
            changes(0, 3, 1, 9) = 2 ~s1
            undo(0, 2) = 0
            run(0) = ok
            changes(0, 3, 2, 9) = 3 ~s2
            undo(0, 2) = 0
            undo(0, 1) = 1
            run(0) = sent sent
            state(0, 3) = 3
            then(0, 3, 3) = s1 s2 s3
            """);
    }

    private static void acts() {
        Runs.run("ACTS: a REQUEST that is run is one; one SUBMISSION that is sent is one (in each of the two ACCOUNTS)", """
            upload(0, 1, 0, 0, 1, 0) = 1
            upload(0, 1, 0, 1, 1, 0) = 2
            newMailbox(0, 0, -1, 3, 0) = 0
            newMailbox(0, 1, -1, 2, 0) = 1
            newEmail(0, 1, -3, 2, 0) = 2
            newEmail(0, 2, -3, 2, 0) = 3
            submit(0, -4, 1, 1) = 4
            submit(0, -5, 1, 1) = 5
            run(0) = m1 m2 e1 e2 s1 s2
            state(0, 0) = 1
            state(0, 1) = 1
            state(0, 2) = 1
            state(0, 3) = 1
            newMailbox(1, 0, -1, 1, 0) = 0
            run(1) = m1
            clock(1) = 2
            state(0, 0) = 3
            state(0, 1) = 3
            state(0, 2) = 1
            state(0, 3) = 3
            state(1, 0) = 3
            state(1, 1) = 2
            state(1, 2) = 2
            state(1, 3) = 0
            changes(0, 1, 1, 1) = 2 ~e1
            changes(0, 1, 2, 1) = 3 ~e2
            changes(1, 1, 0, 1) = 1 +e1
            changes(1, 1, 1, 1) = 2 +e2
            changes(1, 2, 0, 1) = 1 +t1
            changes(0, 0, 1, 2) = 3 ~m1 ~m2
            """);
    }

    private static void known() {
        known(0, "newMailbox(0, 0, -1, 0, 0) = 0\nrun(0) = m1\n", "changeMailbox(0, 1, 3, 1) = 0\nrun(0) = ok\n",
                "changeMailbox(0, 1, 3, 0) = 0\nrun(0) = ok\n", "m1");
        String mail = "upload(0, 1, 0, 0, 1, 0) = 1\nnewMailbox(0, 0, -1, 0, 0) = 0\nnewEmail(0, 1, -2, 0, 0) = 1\n";
        known(1, mail + "run(0) = m1 e1\n", "changeEmail(0, 1, 0, 2) = 0\nrun(0) = ok\n",
                "changeEmail(0, 1, 1, 2) = 0\nrun(0) = ok\n", "e1");
        StringBuilder threads = new StringBuilder(mail + "run(0) = m1 e1\n");
        for (int state = 2; state <= 50; state++) {
            threads.append("newEmail(0, 1, 1, 0, 0) = 0\n");
            threads.append(state > 2 ? "dropEmail(0, " + (state - 1) + ") = 1\n" : "");
            threads.append("run(0) = e").append(state).append(state > 2 ? " ok\n" : "\n");
            threads.append(knownAt(2, state, "t1"));
        }
        Runs.run("the last 24 STATES of TYPE 2 are known", threads.toString());
        StringBuilder submissions = new StringBuilder(mail + "run(0) = m1 e1\n");
        for (int state = 1; state <= 50; state++) {
            submissions.append("submit(0, 1, 2, 0) = 0\nrun(0) = s").append(state).append('\n');
            if (state == 23) {
                submissions.append("then(0, 3, 0) =\nthen(0, 3, 1) = s1\n");
            } else if (state == 24) {
                submissions.append("then(0, 3, 0) = cannot\nthen(0, 3, 1) = s1\nchanges(0, 3, 0, 99) = cannot\n");
                submissions.append("changes(0, 3, 1, 1) = 2 +s2\n");
            }
        }
        submissions.append("""
            then(0, 3, 26) = cannot
            then(0, 3, 27) = s1 s2 s3 s4 s5 s6 s7 s8 s9 s10 s11 s12 s13 s14 s15 s16 s17 s18 s19 s20 s21 s22 s23 s24 s25 s26 s27
            changes(0, 3, 26, 99) = cannot
            changes(0, 3, 27, 2) = 29 +s28 +s29
            changes(0, 3, 49, 99) = 50 +s50
            changes(0, 3, 50, 99) = 50
            changes(0, 3, 51, 99) = cannot
            """);
        Runs.run("the last 24 STATES of TYPE 3 are known", submissions.toString());
    }

    /** STATES of which each behind the first one changes the same thing alone. */
    private static void known(int type, String first, String on, String off, String thing) {
        StringBuilder lines = new StringBuilder(first);
        for (int state = 2; state <= 50; state++) {
            lines.append(state % 2 == 0 ? on : off).append(knownAt(type, state, thing));
        }
        Runs.run("the last 24 STATES of TYPE " + type + " are known", lines.toString());
    }

    /** What is asked at a STATE: those that are known last, and those beside them; behind 47 all were told twice over. */
    private static String knownAt(int type, int state, String thing) {
        String told = "(0, " + type;
        if (state == 23) {
            return "state" + told + ") = 23\nchanges" + told + ", 0, 1) = 23 +" + thing + "\nthen" + told + ", 0) =\nthen"
                    + told + ", 1) = " + thing + "\n"
                    + (type == 1 ? "queryChanges(0, 0, 0) = 0:e1\nqueryChanges(0, 0, 1) =\n" : "");
        }
        if (state != 24 && state != 25 && state < 47) {
            return "";
        }
        int first = state - 23;
        StringBuilder lines = new StringBuilder();
        lines.append("changes" + told + ", " + (first - 1) + ", 1) = cannot\n");
        lines.append("changes" + told + ", " + first + ", 1) = " + state + " ~" + thing + "\n");
        lines.append("changes" + told + ", " + state + ", 1) = " + state + "\n");
        lines.append("changes" + told + ", " + (state + 1) + ", 1) = cannot\n");
        lines.append("then" + told + ", " + (first - 1) + ") = cannot\n");
        lines.append("then" + told + ", " + first + ") = " + thing + "\n");
        lines.append("then" + told + ", " + state + ") = " + thing + "\n");
        lines.append("then" + told + ", " + (state + 1) + ") = cannot\n");
        if (type == 1) {
            lines.append("queryChanges(0, 0, " + (first - 1) + ") = cannot\n");
            lines.append("queryChanges(0, 0, " + first + ") =\n");
            lines.append("queryChanges(0, 0, " + state + ") =\n");
            lines.append("queryChanges(0, 0, " + (state + 1) + ") = cannot\n");
        }
        return lines.toString();
    }

    private static void numbers() {
        Runs.run("CHANGES as far as the number of IDS that were told with them is not above the told number", """
            newMailbox(0, 1, -1, 0, 0) = 0
            newMailbox(0, 2, -1, 0, 0) = 1
            newMailbox(0, 3, -1, 0, 0) = 2
            run(0) = m1 m2 m3
            newMailbox(0, 4, -1, 0, 0) = 0
            changeMailbox(0, 1, 3, 1) = 1
            run(0) = m4 ok
            dropMailbox(0, 1, false) = 0
            run(0) = ok
            newMailbox(0, 5, -1, 0, 0) = 0
            run(0) = m5
            changes(0, 0, 0, 1) = cannot
            changes(0, 0, 0, 2) = cannot
            changes(0, 0, 0, 3) = 1 +m1 +m2 +m3
            changes(0, 0, 0, 4) = 3 +m2 +m3 +m4
            changes(0, 0, 0, 5) = 4 +m2 +m3 +m4 +m5
            changes(0, 0, 0, 99) = 4 +m2 +m3 +m4 +m5
            changes(0, 0, 1, 1) = cannot
            changes(0, 0, 1, 2) = 3 +m4 -m1
            changes(0, 0, 1, 3) = 4 +m4 +m5 -m1
            changes(0, 0, 2, 1) = 3 -m1
            changes(0, 0, 2, 2) = 4 +m5 -m1
            changes(0, 0, 3, 1) = 4 +m5
            changes(0, 0, 4, 1) = 4
            changes(0, 0, 5, 99) = cannot
            """);
        Runs.run("CHANGES: they end ahead of the first step that is above, though one behind it adds none", """
            newMailbox(0, 1, -1, 0, 0) = 0
            newMailbox(0, 2, -1, 0, 0) = 1
            newMailbox(0, 3, -1, 0, 0) = 2
            run(0) = m1 m2 m3
            changeMailbox(0, 1, 3, 1) = 0
            run(0) = ok
            changeMailbox(0, 2, 3, 1) = 0
            changeMailbox(0, 3, 3, 1) = 1
            run(0) = ok ok
            changeMailbox(0, 1, 3, 2) = 0
            run(0) = ok
            changes(0, 0, 1, 1) = 2 ~m1
            changes(0, 0, 1, 2) = 2 ~m1
            changes(0, 0, 1, 3) = 4 ~m1 ~m2 ~m3
            changes(0, 0, 2, 1) = cannot
            changes(0, 0, 2, 2) = 3 ~m2 ~m3
            changes(0, 0, 3, 1) = 4 ~m1
            """);
        Runs.run("CHANGES: each ID counted once, also if it is not told in the end", """
            newMailbox(0, 1, -1, 0, 0) = 0
            run(0) = m1
            dropMailbox(0, 1, false) = 0
            run(0) = ok
            newMailbox(0, 1, -1, 0, 0) = 0
            run(0) = m2
            changeMailbox(0, 2, 3, 5) = 0
            run(0) = ok
            dropMailbox(0, 2, false) = 0
            newMailbox(0, 1, -1, 0, 0) = 1
            run(0) = ok m3
            changes(0, 0, 0, 1) = 2
            changes(0, 0, 0, 2) = 4 +m2
            changes(0, 0, 0, 3) = 5 +m3
            changes(0, 0, 1, 1) = 2 -m1
            changes(0, 0, 1, 2) = 4 +m2 -m1
            changes(0, 0, 1, 3) = 5 +m3 -m1
            changes(0, 0, 2, 1) = 4 +m2
            changes(0, 0, 2, 2) = 5 +m3
            changes(0, 0, 3, 1) = 4 ~m2
            changes(0, 0, 3, 2) = 5 +m3 -m2
            changes(0, 0, 4, 1) = cannot
            changes(0, 0, 4, 2) = 5 +m3 -m2
            """);
    }

    private static void kinds() {
        Runs.run("CHANGES: came and there at the end; CHANGED, there at the beginning and at the end; there and went", """
            newMailbox(0, 1, -1, 0, 0) = 0
            newMailbox(0, 2, -1, 0, 0) = 1
            run(0) = m1 m2
            changeMailbox(0, 1, 3, 5) = 0
            run(0) = ok
            changeMailbox(0, 1, 3, 0) = 0
            run(0) = ok
            changes(0, 0, 1, 1) = 3 ~m1
            newMailbox(0, 3, -1, 0, 0) = 0
            changeMailbox(0, 2, 3, 5) = 1
            run(0) = m3 ok
            changeMailbox(0, 3, 3, 5) = 0
            run(0) = ok
            changes(0, 0, 3, 9) = 5 +m3 ~m2
            changes(0, 0, 1, 9) = 5 +m3 ~m1 ~m2
            changes(0, 0, 0, 9) = 5 +m1 +m2 +m3
            changes(0, 0, 4, 9) = 5 ~m3
            dropMailbox(0, 2, false) = 0
            run(0) = ok
            changes(0, 0, 3, 9) = 6 +m3 -m2
            changes(0, 0, 1, 9) = 6 +m3 ~m1 -m2
            changes(0, 0, 0, 9) = 6 +m1 +m3
            changes(0, 0, 5, 9) = 6 -m2
            changes(0, 0, 6, 9) = 6
            changes(0, 0, 4, 9) = 6 ~m3 -m2
            changes(0, 0, 4, 1) = 5 ~m3
            dropMailbox(0, 3, false) = 0
            dropMailbox(0, 1, false) = 1
            run(0) = ok ok
            changes(0, 0, 3, 9) = 7 -m1 -m2
            changes(0, 0, 6, 9) = 7 -m1 -m3
            changes(0, 0, 0, 9) = 7
            changes(0, 0, 7, 9) = 7
            changes(0, 0, 1, 9) = 7 -m1 -m2
            """);
        Runs.run("CHANGES: each kind by IDS, IDS with their letter", """
            upload(0, 1, 0, 0, 1, 0) = 1
            upload(0, 1, 0, 1, 1, 0) = 2
            newMailbox(0, 0, -1, 0, 0) = 0
            newEmail(0, 2, -2, 0, 0) = 1
            newEmail(0, 1, -2, 0, 0) = 2
            newEmail(0, 1, -2, 0, 0) = 3
            newEmail(0, 2, -2, 0, 0) = 4
            submit(0, -4, 2, 0) = 5
            submit(0, -3, 2, 0) = 6
            run(0) = m1 e1 e2 e3 e4 s1 s2
            changes(0, 0, 0, 9) = 1 +m1
            changes(0, 1, 0, 9) = 1 +e1 +e2 +e3 +e4
            changes(0, 2, 0, 9) = 1 +t1 +t2
            changes(0, 3, 0, 9) = 1 +s1 +s2
            dropEmail(0, 4) = 0
            dropEmail(0, 1) = 1
            changeEmail(0, 3, 0, 4) = 2
            changeEmail(0, 2, 0, 4) = 3
            newEmail(0, 1, 1, 0, 0) = 4
            newEmail(0, 1, 1, 0, 0) = 5
            undo(0, 2) = 6
            undo(0, 1) = 7
            run(0) = ok ok ok ok e5 e6 ok ok
            changes(0, 1, 1, 9) = 2 +e5 +e6 ~e2 ~e3 -e1 -e4
            changes(0, 2, 1, 9) = 2 ~t2 -t1
            changes(0, 3, 1, 9) = 2 ~s1 ~s2
            changes(0, 1, 1, 5) = cannot
            changes(0, 1, 1, 6) = 2 +e5 +e6 ~e2 ~e3 -e1 -e4
            """);
    }
}
