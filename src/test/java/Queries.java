/** Promises about queries. */
final class Queries {
    private static final String MAILS = """
        upload(0, 5, 3, 0, 1, 0) = 1
        upload(0, 4, 3, 0, 1, 0) = 2
        upload(0, 5, 1, 1, 3, 0) = 3
        upload(0, 1, 9, 2, 4, 0) = 4
        newMailbox(0, 0, -1, 0, 0) = 0
        newMailbox(0, 1, -1, 0, 0) = 1
        newEmail(0, 1, -2, 0, 30) = 2
        newEmail(0, 2, -2, 1, 20) = 3
        newEmail(0, 3, -3, 4, 30) = 4
        newEmail(0, 4, -3, 36, 10) = 5
        changeEmail(0, -4, 2, -3) = 6
        run(0) = m1 m2 e1 e2 e3 e4 ok
        """;

    private Queries() {
    }

    static void all() {
        Runs.run("21 filter, 22 sequence: wrong inputs", """
            filter(-1, 0, 9, 9, 99, 99) = I
            filter(4, -1, -1, -1, -1, -1) = I
            filter(0, 0, -1, -1, -1, -1) = A
            filter(0, -2, -1, -1, -1, -1) = A
            filter(0, -1, -2, -1, -1, -1) = A
            filter(0, -1, 6, -1, -1, -1) = A
            filter(0, -1, -1, -2, -1, -1) = A
            filter(0, -1, -1, 6, -1, -1) = A
            filter(0, -1, -1, -1, -2, -1) = A
            filter(0, -1, -1, -1, 10, -1) = A
            filter(0, -1, -1, -1, -1, -2) = A
            filter(0, -1, -1, -1, -1, 10) = A
            filter(0, -1, -1, -1, -1, -1) = 0
            filter(3, 2147483647, 5, 5, 9, 9) = 5
            filter(3, 1, 0, 0, 0, 0) = 5
            filter(3, -1, 0, -1, -1, -1) = 1
            sequence(-1, 9, true, true) = I
            sequence(4, 0, true, true) = I
            sequence(0, -1, true, true) = A
            sequence(0, 4, true, true) = A
            sequence(0, 3, true, true) = 0
            sequence(0, 1, true, true) = 3
            sequence(3, 0, true, true) = 0
            """);
        Runs.run("21 filter", MAILS + """
            filter(0, 1, -1, -1, -1, -1) = 1
            ask(0, 0, 0, 40) = e2 e1
            filter(0, 2, -1, -1, -1, -1) = 1
            ask(0, 0, 0, 40) = e4 e1 e3
            filter(0, 3, -1, -1, -1, -1) = 1
            ask(0, 0, 0, 40) =
            filter(0, -1, 2, -1, -1, -1) = 1
            ask(0, 0, 0, 40) = e4 e3
            filter(0, -1, 5, -1, -1, -1) = 1
            ask(0, 0, 0, 40) = e4
            filter(0, -1, 0, -1, -1, -1) = 1
            ask(0, 0, 0, 40) = e2
            filter(0, -1, -1, 2, -1, -1) = 1
            ask(0, 0, 0, 40) = e2 e1
            filter(0, -1, -1, 0, -1, -1) = 1
            ask(0, 0, 0, 40) = e4 e1 e3
            filter(0, -1, -1, -1, 3, -1) = 1
            ask(0, 0, 0, 40) = e2 e1
            filter(0, -1, -1, -1, 0, -1) = 1
            ask(0, 0, 0, 40) =
            filter(0, -1, -1, -1, -1, 1) = 1
            ask(0, 0, 0, 40) = e3
            filter(0, -1, -1, -1, -1, 0) = 1
            ask(0, 0, 0, 40) = e2 e1
            filter(0, 2, 2, 5, 1, 1) = 5
            ask(0, 0, 0, 40) = e3
            filter(0, 2, 2, 2, -1, -1) = 3
            total(0, 0) = 0
            ask(1, 0, 0, 40) = e4 e2 e1 e3
            ask(1, 1, 0, 40) =
            """);
        Runs.run("22 sequence", MAILS + """
            sequence(2, 0, true, false) = 0
            ask(2, 0, 0, 40) = e1 e3 e2 e4
            sequence(2, 1, false, false) = 0
            ask(2, 0, 0, 40) = e4 e2 e1 e3
            sequence(2, 1, true, false) = 1
            ask(2, 0, 0, 40) = e1 e3 e2 e4
            sequence(2, 2, false, false) = 1
            ask(2, 0, 0, 40) = e3 e1 e2 e4
            sequence(2, 2, true, false) = 2
            ask(2, 0, 0, 40) = e4 e1 e2 e3
            sequence(2, 3, false, false) = 2
            ask(2, 0, 0, 40) = e1 e2 e3 e4
            sequence(2, 3, true, false) = 3
            ask(2, 0, 0, 40) = e4 e3 e1 e2
            sequence(2, 0, false, true) = 3
            ask(2, 0, 0, 40) = e4 e2 e3
            total(2, 0) = 3
            sequence(2, 0, true, true) = 0
            ask(2, 0, 0, 40) = e1 e3 e4
            filter(2, -1, 0, -1, -1, -1) = 1
            ask(2, 0, 0, 40) = e2
            ask(0, 0, 0, 40) = e4 e2 e1 e3
            """);
        Runs.run("23 ask, 24 askAt, 25 total", MAILS + """
            ask(-1, 0, 0, 99) = I
            ask(4, 0, 0, 0) = I
            ask(0, 2, 0, 99) = I
            ask(0, -1, 0, 0) = I
            ask(0, 0, 0, -1) = A
            ask(0, 0, 0, 41) = A
            ask(0, 0, 0, 0) =
            ask(0, 0, 0, 2) = e4 e2
            ask(0, 0, 1, 2) = e2 e1
            ask(0, 0, 3, 2) = e3
            ask(0, 0, 4, 2) =
            ask(0, 0, 2147483647, 40) =
            ask(0, 0, -1, 40) = e3
            ask(0, 0, -2, 1) = e1
            ask(0, 0, -4, 40) = e4 e2 e1 e3
            ask(0, 0, -5, 2) = e4 e2
            ask(0, 0, -2147483648, 2) = e4 e2
            askAt(-1, 0, 1, 0, 99) = I
            askAt(4, 0, 1, 0, 1) = I
            askAt(0, 2, 1, 0, 99) = I
            askAt(0, -1, 1, 0, 1) = I
            askAt(0, 0, 1, 0, -1) = A
            askAt(0, 0, 1, 0, 41) = A
            askAt(0, 0, 1, 0, 40) = e1 e3
            askAt(0, 0, 1, 0, 0) =
            askAt(0, 0, 1, 1, 1) = e3
            askAt(0, 0, 1, -1, 1) = e2
            askAt(0, 0, 1, -3, 2) = e4 e2
            askAt(0, 0, 1, 2, 40) =
            askAt(0, 0, 3, 2147483647, 40) =
            askAt(0, 0, 3, -2147483648, 1) = e4
            askAt(0, 0, 5, 0, 1) = anchor
            askAt(0, 0, 0, 0, 0) = anchor
            askAt(0, 0, -1, 0, 1) = anchor
            total(0, 0) = 4
            total(0, 1) = 0
            total(-1, 0) = I
            total(4, 0) = I
            total(0, 2) = I
            total(0, -1) = I
            """);
        Runs.run("26 queryChanges", MAILS + """
            queryChanges(-1, 0, 0) = I
            queryChanges(4, 0, 0) = I
            queryChanges(0, 2, 0) = I
            queryChanges(0, -1, 0) = I
            queryChanges(0, 0, -1) = cannot
            queryChanges(0, 0, 2) = cannot
            queryChanges(0, 0, 2147483647) = cannot
            queryChanges(0, 0, 1) =
            queryChanges(0, 0, 0) = 0:e4 1:e2 2:e1 3:e3
            sequence(1, 0, true, false) = 0
            filter(1, 2, -1, -1, -1, -1) = 1
            sequence(2, 0, false, true) = 0
            filter(3, -1, 2, -1, -1, -1) = 1
            sequence(3, 1, true, false) = 0
            changeEmail(0, 2, 2, 2) = 0
            changeEmail(0, 1, 3, 2) = 1
            dropEmail(0, 4) = 2
            changeEmail(0, 3, 1, 2) = 3
            changeEmail(0, 1, 0, 2) = 4
            run(0) = ok ok ok ok ok
            sweep(0) = 1
            queryChanges(0, 0, 1) = -e4
            queryChanges(1, 0, 1) = -e1 -e4 1:e2
            queryChanges(2, 0, 1) = -e4
            queryChanges(3, 0, 1) = -e3 -e4 0:e1
            queryChanges(1, 0, 0) = 0:e3 1:e2
            queryChanges(1, 0, 2) =
            newEmail(0, 1, 1, 0, 5) = 0
            run(0) = e5
            queryChanges(2, 0, 2) = -e2 0:e5
            queryChanges(2, 0, 1) = -e4 -e2 0:e5
            dropMailbox(0, 2, true) = 0
            run(0) = ok
            queryChanges(1, 0, 3) = -e3 -e2
            queryChanges(1, 0, 1) = -e1 -e3 -e4
            queryChanges(1, 0, 4) =
            """);
    }
}
