/** Sentences of "Queries". */
final class BoundsOfQueries {
    /** Two EMAILS: all of one at its least, all of the other at its most. */
    private static final String ENDS = """
        upload(0, 1, 0, 0, 1, 0) = 1
        upload(0, 99, 9, 9, 99, 99) = 2
        newMailbox(0, 0, -1, 0, 0) = 0
        newMailbox(0, 1, -1, 0, 0) = 1
        newEmail(0, 1, -2, 0, 0) = 2
        newEmail(0, 2, -3, 63, 9999) = 3
        run(0) = m1 m2 e1 e2
        """;

    private BoundsOfQueries() {
    }

    static void all() {
        filters();
        sequences();
        collapsed();
        positions();
        anchors();
        lostAndGained();
        asTheyWere();
    }

    private static void filters() {
        Runs.run("QUERIES 0 to 3 have a FILTER and a SEQUENCE, at first NONE all, by RECEIVED, rising, not COLLAPSED", """
            upload(0, 9, 0, 0, 1, 0) = 1
            upload(0, 1, 9, 9, 1, 0) = 2
            newMailbox(0, 0, -1, 0, 0) = 0
            newEmail(0, 1, -2, 0, 7) = 1
            newEmail(0, 1, -2, 0, 6) = 2
            newEmail(0, 2, -2, 0, 6) = 3
            run(0) = m1 e1 e2 e3
            ask(0, 0, 0, 40) = e2 e3 e1
            ask(1, 0, 0, 40) = e2 e3 e1
            ask(2, 0, 0, 40) = e2 e3 e1
            ask(3, 0, 0, 40) = e2 e3 e1
            sequence(1, 1, true, false) = 0
            filter(2, -1, -1, -1, -1, 9) = 1
            sequence(3, 0, false, true) = 0
            ask(0, 0, 0, 40) = e2 e3 e1
            ask(1, 0, 0, 40) = e1 e2 e3
            ask(2, 0, 0, 40) = e3
            ask(3, 0, 0, 40) = e2 e3
            filter(2, -1, -1, -1, -1, -1) = 0
            sequence(1, 0, false, false) = 1
            sequence(3, 0, false, false) = 0
            ask(1, 0, 0, 40) = e2 e3 e1
            ask(2, 0, 0, 40) = e2 e3 e1
            ask(3, 0, 0, 40) = e2 e3 e1
            """);
        StringBuilder lines = new StringBuilder(ENDS);
        for (int keyword = 0; keyword <= 5; keyword++) {
            lines.append("filter(0, -1, ").append(keyword).append(", -1, -1, -1) = 1\nask(0, 0, 0, 40) = e2\n");
            lines.append("filter(0, -1, -1, ").append(keyword).append(", -1, -1) = 1\nask(0, 0, 0, 40) = e1\n");
            lines.append("filter(0, -1, ").append(keyword).append(", ").append(keyword);
            lines.append(", -1, -1) = 2\nask(0, 0, 0, 40) =\n");
        }
        Runs.run("FILTER: a KEYWORD that it has (NONE), one that it has not (NONE)", lines.toString());
        Runs.run("FILTER: a MAILBOX (NONE: any), FROM (NONE), SUBJECT (NONE)", ENDS + """
            filter(0, 1, -1, -1, -1, -1) = 1
            ask(0, 0, 0, 40) = e1
            filter(0, 2, -1, -1, -1, -1) = 1
            ask(0, 0, 0, 40) = e2
            filter(0, 3, -1, -1, -1, -1) = 1
            ask(0, 0, 0, 40) =
            filter(0, 2147483647, -1, -1, -1, -1) = 1
            total(0, 0) = 0
            filter(0, -1, -1, -1, 0, -1) = 1
            ask(0, 0, 0, 40) = e1
            filter(0, -1, -1, -1, 9, -1) = 1
            ask(0, 0, 0, 40) = e2
            filter(0, -1, -1, -1, 5, -1) = 1
            ask(0, 0, 0, 40) =
            filter(0, -1, -1, -1, -1, 0) = 1
            ask(0, 0, 0, 40) = e1
            filter(0, -1, -1, -1, -1, 9) = 1
            ask(0, 0, 0, 40) = e2
            filter(0, -1, -1, -1, -1, 5) = 1
            ask(0, 0, 0, 40) =
            filter(0, 2, 5, -1, 9, 9) = 4
            ask(0, 0, 0, 40) = e2
            filter(0, 1, 5, -1, 9, 9) = 4
            ask(0, 0, 0, 40) =
            filter(0, 2, 5, -1, 0, 9) = 4
            ask(0, 0, 0, 40) =
            filter(0, 2, 5, -1, 9, 0) = 4
            ask(0, 0, 0, 40) =
            filter(0, 2, 5, 4, 9, 9) = 5
            ask(0, 0, 0, 40) =
            filter(0, 1, -1, 4, 0, 0) = 4
            ask(0, 0, 0, 40) = e1
            changeEmail(0, 2, 2, 1) = 0
            run(0) = ok
            filter(0, 1, -1, -1, -1, -1) = 1
            ask(0, 0, 0, 40) = e1 e2
            dropMailbox(0, 1, true) = 0
            run(0) = ok
            ask(0, 0, 0, 40) =
            """);
    }

    private static void sequences() {
        Runs.run("SEQUENCE: by RECEIVED, SIZE, FROM, or SUBJECT, rising or falling", ENDS + """
            sequence(0, 0, false, false) = 0
            ask(0, 0, 0, 40) = e1 e2
            sequence(0, 0, true, false) = 0
            ask(0, 0, 0, 40) = e2 e1
            sequence(0, 1, false, false) = 0
            ask(0, 0, 0, 40) = e1 e2
            sequence(0, 1, true, false) = 1
            ask(0, 0, 0, 40) = e2 e1
            sequence(0, 2, false, false) = 1
            ask(0, 0, 0, 40) = e1 e2
            sequence(0, 2, true, false) = 2
            ask(0, 0, 0, 40) = e2 e1
            sequence(0, 3, false, false) = 2
            ask(0, 0, 0, 40) = e1 e2
            sequence(0, 3, true, false) = 3
            ask(0, 0, 0, 40) = e2 e1
            """);
        Runs.run("SEQUENCE: of like ones by IDS (rising, always)", """
            upload(0, 5, 5, 5, 5, 0) = 1
            newMailbox(0, 0, -1, 0, 0) = 0
            newEmail(0, 1, -2, 0, 3) = 1
            newEmail(0, 1, -2, 0, 3) = 2
            newEmail(0, 1, -2, 0, 3) = 3
            run(0) = m1 e1 e2 e3
            sequence(0, 0, true, false) = 0
            ask(0, 0, 0, 40) = e1 e2 e3
            sequence(0, 1, true, false) = 0
            ask(0, 0, 0, 40) = e1 e2 e3
            sequence(0, 2, true, false) = 1
            ask(0, 0, 0, 40) = e1 e2 e3
            sequence(0, 3, true, false) = 2
            ask(0, 0, 0, 40) = e1 e2 e3
            sequence(0, 3, false, false) = 3
            ask(0, 0, 0, 40) = e1 e2 e3
            """);
    }

    private static void collapsed() {
        Runs.run("COLLAPSED: of each THREAD only the first one of the SEQUENCE that the FILTER lets", """
            upload(0, 1, 0, 0, 1, 0) = 1
            upload(0, 1, 0, 1, 1, 0) = 2
            newMailbox(0, 0, -1, 0, 0) = 0
            newEmail(0, 1, -2, 1, 5) = 1
            newEmail(0, 1, -2, 0, 7) = 2
            newEmail(0, 1, -2, 0, 5) = 3
            newEmail(0, 2, -2, 1, 6) = 4
            newEmail(0, 2, -2, 1, 6) = 5
            run(0) = m1 e1 e2 e3 e4 e5
            threads(0) = t1 t2
            sequence(0, 0, false, true) = 0
            ask(0, 0, 0, 40) = e1 e4
            total(0, 0) = 2
            sequence(0, 0, true, true) = 0
            ask(0, 0, 0, 40) = e2 e4
            filter(0, -1, -1, 0, -1, -1) = 1
            ask(0, 0, 0, 40) = e2
            sequence(0, 0, false, true) = 0
            ask(0, 0, 0, 40) = e3
            filter(0, -1, 0, -1, -1, -1) = 1
            ask(0, 0, 0, 40) = e1 e4
            filter(0, -1, 1, -1, -1, -1) = 1
            ask(0, 0, 0, 40) =
            filter(0, -1, 0, -1, -1, -1) = 1
            dropEmail(0, 4) = 0
            run(0) = ok
            ask(0, 0, 0, 40) = e1 e5
            askAt(0, 0, 5, 0, 1) = e5
            askAt(0, 0, 3, 0, 1) = anchor
            """);
    }

    private static void positions() {
        Runs.run("POSITION (any int) of a RESULT that is empty, and of one that has one EMAIL", """
            ask(0, 0, 0, 40) =
            ask(0, 0, 1, 40) =
            ask(0, 0, -1, 40) =
            ask(0, 0, 2147483647, 40) =
            ask(0, 0, -2147483648, 40) =
            total(0, 0) = 0
            upload(0, 1, 0, 0, 1, 0) = 1
            newMailbox(0, 0, -1, 0, 0) = 0
            newEmail(0, 1, -2, 0, 0) = 1
            run(0) = m1 e1
            ask(0, 0, 0, 40) = e1
            ask(0, 0, 0, 1) = e1
            ask(0, 0, 0, 0) =
            ask(0, 0, 1, 40) =
            ask(0, 0, -1, 40) = e1
            ask(0, 0, -2, 40) = e1
            ask(0, 0, -2, 0) =
            ask(0, 0, 2147483647, 40) =
            ask(0, 0, -2147483648, 40) = e1
            ask(0, 1, 0, 40) =
            """);
        StringBuilder lines = new StringBuilder("upload(0, 1, 0, 0, 1, 0) = 1\nnewMailbox(0, 0, -1, 0, 0) = 0\nrun(0) = m1\n");
        StringBuilder all = new StringBuilder();
        for (int email = 1; email <= 40; email++) {
            lines.append("newEmail(0, 1, 1, 0, 0) = ").append((email - 1) % 8).append('\n');
            all.append(" e").append(email);
            if (email % 8 == 0) {
                lines.append("run(0) =").append(all.substring(all.indexOf(" e" + (email - 7)))).append('\n');
            }
        }
        String butOne = all.substring(0, all.indexOf(" e40"));
        lines.append("total(0, 0) = 40\nask(0, 0, 0, 40) =").append(all).append("\nask(0, 0, 0, 39) =").append(butOne);
        lines.append("\nask(0, 0, -40, 40) =").append(all).append("\nask(0, 0, -41, 39) =").append(butOne);
        lines.append("\nask(0, 0, 1, 40) =").append(all.substring(3)).append("\nask(0, 0, -39, 40) =").append(all.substring(3));
        lines.append("""

            ask(0, 0, 39, 40) = e40
            ask(0, 0, 40, 40) =
            ask(0, 0, 38, 40) = e39 e40
            ask(0, 0, -1, 40) = e40
            ask(0, 0, -2, 1) = e39
            ask(0, 0, -40, 1) = e1
            ask(0, 0, -41, 1) = e1
            ask(0, 0, -2147483648, 1) = e1
            ask(0, 0, 2147483647, 1) =
            askAt(0, 0, 40, 0, 40) = e40
            askAt(0, 0, 40, 1, 40) =
            askAt(0, 0, 40, -39, 1) = e1
            askAt(0, 0, 40, -40, 1) = e1
            askAt(0, 0, 1, 39, 1) = e40
            askAt(0, 0, 1, 40, 1) =
            askAt(0, 0, 1, -1, 2) = e1 e2
            askAt(0, 0, 20, 2147483647, 40) =
            askAt(0, 0, 20, -2147483648, 2) = e1 e2
            askAt(0, 0, 1, 0, 0) =
            """);
        lines.append("askAt(0, 0, 1, 0, 40) =").append(all).append('\n');
        Runs.run("POSITION and OFFSET (any int) of a RESULT that has forty EMAILS, so many at most", lines.toString());
    }

    private static void anchors() {
        Runs.run("with an ANCHOR, from its place and the OFFSET (ahead of the first one: the first one)", """
            upload(0, 1, 0, 0, 1, 0) = 1
            askAt(0, 0, 1, 0, 40) = anchor
            newMailbox(0, 0, -1, 0, 0) = 0
            newEmail(0, 1, -2, 0, 3) = 1
            newEmail(0, 1, -2, 1, 2) = 2
            newEmail(0, 1, -2, 0, 1) = 3
            run(0) = m1 e1 e2 e3
            askAt(0, 0, 2, 0, 40) = e2 e1
            askAt(0, 0, 2, -1, 1) = e3
            askAt(0, 0, 2, -2, 1) = e3
            askAt(0, 0, 2, 1, 40) = e1
            askAt(0, 0, 2, 2, 40) =
            askAt(0, 0, 1, 0, 40) = e1
            askAt(0, 0, 1, 1, 40) =
            askAt(0, 0, 1, -2, 40) = e3 e2 e1
            askAt(0, 0, 1, -3, 40) = e3 e2 e1
            askAt(0, 0, 4, 0, 40) = anchor
            askAt(0, 0, 0, 0, 40) = anchor
            askAt(0, 0, -1, 0, 40) = anchor
            askAt(0, 0, 2147483647, 0, 0) = anchor
            askAt(0, 0, -2147483648, 0, 0) = anchor
            askAt(0, 1, 1, 0, 40) = anchor
            filter(0, -1, -1, 0, -1, -1) = 1
            askAt(0, 0, 2, 0, 40) = anchor
            askAt(0, 0, 1, -1, 40) = e3 e1
            filter(0, -1, -1, -1, -1, -1) = 0
            sequence(0, 0, false, true) = 0
            askAt(0, 0, 1, 0, 40) = anchor
            askAt(0, 0, 3, 0, 40) = e3
            dropEmail(0, 3) = 0
            run(0) = ok
            askAt(0, 0, 3, 0, 40) = anchor
            askAt(0, 0, 2, 5, 40) =
            """);
    }

    private static void lostAndGained() {
        Runs.run("QUERYCHANGES: what stood then and does not now, in the old sequence; what stands now, with its place", """
            upload(0, 1, 0, 0, 1, 0) = 1
            newMailbox(0, 0, -1, 0, 0) = 0
            newEmail(0, 1, -2, 0, 9) = 1
            newEmail(0, 1, -2, 0, 5) = 2
            newEmail(0, 1, -2, 0, 7) = 3
            newEmail(0, 1, -2, 0, 1) = 4
            run(0) = m1 e1 e2 e3 e4
            queryChanges(0, 0, 1) =
            queryChanges(0, 0, 0) = 0:e4 1:e2 2:e3 3:e1
            dropEmail(0, 1) = 0
            dropEmail(0, 4) = 1
            dropEmail(0, 2) = 2
            newEmail(0, 1, 1, 0, 8) = 3
            newEmail(0, 1, 1, 0, 0) = 4
            run(0) = ok ok ok e5 e6
            queryChanges(0, 0, 1) = -e4 -e2 -e1 0:e6 2:e5
            queryChanges(0, 0, 0) = 0:e6 1:e3 2:e5
            queryChanges(0, 0, 2) =
            sequence(0, 0, true, false) = 0
            queryChanges(0, 0, 1) = -e1 -e2 -e4 0:e5 2:e6
            queryChanges(0, 0, 3) = cannot
            queryChanges(0, 0, -1) = cannot
            queryChanges(0, 0, 2147483647) = cannot
            queryChanges(0, 0, -2147483648) = cannot
            dropMailbox(0, 1, true) = 0
            run(0) = ok
            queryChanges(0, 0, 2) = -e5 -e3 -e6
            queryChanges(0, 0, 0) =
            queryChanges(0, 0, 3) =
            queryChanges(0, 1, 0) =
            queryChanges(0, 1, 1) = cannot
            """);
        Runs.run("QUERYCHANGES: what came and went, or left the RESULT and is in it again, is not told", """
            upload(0, 1, 0, 0, 1, 0) = 1
            newMailbox(0, 0, -1, 0, 0) = 0
            newEmail(0, 1, -2, 0, 9) = 1
            run(0) = m1 e1
            filter(0, -1, -1, 0, -1, -1) = 1
            newEmail(0, 1, 1, 0, 5) = 0
            changeEmail(0, 1, 0, 0) = 1
            run(0) = e2 ok
            dropEmail(0, 2) = 0
            changeEmail(0, 1, 1, 0) = 1
            run(0) = ok ok
            queryChanges(0, 0, 1) =
            queryChanges(0, 0, 2) = -e2 0:e1
            queryChanges(0, 0, 0) = 0:e1
            """);
    }

    private static void asTheyWere() {
        Runs.run("QUERYCHANGES: the QUERY as it is now; KEYWORDS and MAILBOXES of an EMAIL as they were then", """
            upload(0, 1, 0, 0, 1, 0) = 1
            newMailbox(0, 0, -1, 0, 0) = 0
            newMailbox(0, 1, -1, 0, 0) = 1
            newEmail(0, 1, -2, 1, 9) = 2
            newEmail(0, 1, -3, 0, 5) = 3
            run(0) = m1 m2 e1 e2
            changeEmail(0, 1, 1, 0) = 0
            changeEmail(0, 2, 0, 0) = 1
            changeEmail(0, 1, 2, 2) = 2
            changeEmail(0, 1, 3, 1) = 3
            changeEmail(0, 2, 2, 1) = 4
            changeEmail(0, 2, 3, 2) = 5
            run(0) = ok ok ok ok ok ok
            filter(0, 1, -1, -1, -1, -1) = 1
            filter(1, 2, -1, -1, -1, -1) = 1
            filter(2, -1, 0, -1, -1, -1) = 1
            filter(3, -1, -1, 0, -1, -1) = 1
            queryChanges(0, 0, 1) = -e1 0:e2
            queryChanges(1, 0, 1) = -e2 0:e1
            queryChanges(2, 0, 1) = -e1 0:e2
            queryChanges(3, 0, 1) = -e2 0:e1
            dropMailbox(0, 1, true) = 0
            run(0) = ok
            queryChanges(0, 0, 1) = -e1
            queryChanges(0, 0, 2) = -e2
            queryChanges(0, 0, 3) =
            filter(0, -1, -1, -1, -1, -1) = 0
            sequence(0, 0, false, true) = 0
            queryChanges(0, 0, 1) = -e2 0:e1
            """);
        Runs.run("QUERYCHANGES: all else of its BLOB, also if that is gone", """
            upload(0, 3, 2, 5, 1, 0) = 1
            upload(0, 1, 7, 5, 2, 0) = 2
            upload(0, 2, 7, 6, 3, 0) = 3
            newMailbox(0, 0, -1, 0, 0) = 0
            newEmail(0, 1, -2, 0, 0) = 1
            newEmail(0, 2, -2, 0, 0) = 2
            newEmail(0, 3, -2, 0, 0) = 3
            run(0) = m1 e1 e2 e3
            dropMailbox(0, 1, true) = 0
            run(0) = ok
            sweep(0) = 3
            queryChanges(0, 0, 1) = -e1 -e2 -e3
            sequence(0, 1, false, false) = 0
            queryChanges(0, 0, 1) = -e2 -e3 -e1
            sequence(0, 2, true, false) = 1
            queryChanges(0, 0, 1) = -e2 -e3 -e1
            sequence(0, 3, true, false) = 2
            queryChanges(0, 0, 1) = -e3 -e1 -e2
            filter(0, -1, -1, -1, 7, -1) = 1
            queryChanges(0, 0, 1) = -e3 -e2
            filter(0, -1, -1, -1, -1, 5) = 1
            queryChanges(0, 0, 1) = -e1 -e2
            filter(0, 1, -1, -1, -1, -1) = 1
            queryChanges(0, 0, 1) = -e3 -e1 -e2
            """);
    }
}
