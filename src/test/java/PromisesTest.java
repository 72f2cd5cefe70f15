/** Each promise of the document: ordinary calls, edges, and wrong ones; a run has its own object. */
public final class PromisesTest {
    private PromisesTest() {
    }

    public static void main(String[] args) {
        storePromises();
        requestPromises();
        Sending.all();
        Changes.all();
        Queries.all();
        Asked.all();
        Runs.end("promises");
    }

    private static void storePromises() {
        Runs.run("1 a new object", """
            house(0) = 0
            house(1) = 0
            house(2) = 0
            house(10) = 0
            ofAccount(0, 0) = 0
            ofAccount(0, 1) = -1
            ofAccount(0, 2) = -1
            ofAccount(0, 3) = 0
            ofAccount(0, 4) = 400
            ofAccount(1, 4) = 400
            ofAccount(1, 5) = 0
            ofAccount(1, 6) = 0
            ofAccount(1, 7) = 0
            ofAccount(1, 8) = 0
            ofAccount(1, 9) = 0
            ofAccount(1, 10) = 0
            state(0, 0) = 0
            state(1, 3) = 0
            answer(0) =
            total(0, 0) = 0
            run(1) =
            """);
        Runs.run("2 upload", """
            upload(0, 1, 0, 0, 1, 0) = 1
            upload(0, 99, 9, 9, 99, 99) = 2
            upload(1, 5, 5, 5, 5, 5) = 1
            house(2) = 3
            blobs(0) = b1 b2
            blobs(1) = b1
            upload(-1, 1, 0, 0, 1, 0) = I
            upload(2, 0, 0, 0, 1, 0) = I
            upload(0, 0, 0, 0, 1, 0) = A
            upload(0, 100, 0, 0, 1, 0) = A
            upload(0, 1, -1, 0, 1, 0) = A
            upload(0, 1, 10, 0, 1, 0) = A
            upload(0, 1, 0, -1, 1, 0) = A
            upload(0, 1, 0, 10, 1, 0) = A
            upload(0, 1, 0, 0, 0, 0) = A
            upload(0, 1, 0, 0, 100, 0) = A
            upload(0, 1, 0, 0, 1, -1) = A
            upload(0, 1, 0, 0, 1, 100) = A
            house(2) = 3
            arm(true) = 0
            upload(0, 0, 0, 0, 1, 0) = A
            house(1) = 1
            upload(0, 1, 0, 0, 1, 0) = -9
            house(1) = 0
            house(2) = 3
            house(3) = 1
            house(4) = 1
            blobs(0) = b1 b2
            upload(0, 1, 0, 0, 1, 0) = 3
            state(0, 1) = 0
            """);
        Runs.run("2 upload torn empties all requests that are typed", """
            dropEmail(0, 1) = 0
            bind(1, 2, 7) = 0
            arm(true) = 0
            upload(0, 1, 0, 0, 1, 0) = -9
            ofAccount(0, 0) = 0
            ofAccount(1, 1) = -1
            ofAccount(1, 2) = -1
            """);
        Runs.run("3 sweep", """
            arm(true) = 0
            sweep(0) = 0
            house(1) = 1
            arm(false) = 1
            upload(0, 1, 0, 0, 1, 0) = 1
            upload(0, 2, 0, 0, 2, 0) = 2
            upload(0, 3, 0, 0, 3, 0) = 3
            upload(1, 3, 0, 0, 3, 0) = 1
            newMailbox(0, 0, -1, 0, 0) = 0
            newEmail(0, 2, -2, 0, 0) = 1
            run(0) = m1 e1
            arm(true) = 0
            sweep(0) = -9
            blobs(0) = b1 b2 b3
            house(2) = 5
            sweep(0) = 2
            blobs(0) = b2
            blobs(1) = b1
            house(2) = 6
            sweep(0) = 0
            house(2) = 6
            dropEmail(0, 1) = 0
            run(0) = ok
            sweep(0) = 1
            blobs(0) =
            upload(0, 1, 0, 0, 1, 0) = 4
            sweep(-1) = I
            sweep(2) = I
            """);
        Runs.run("4 quota", """
            quota(0, 1) = 400
            quota(0, 9999) = 1
            quota(1, 9999) = 400
            quota(0, 9999) = 9999
            house(2) = 4
            quota(2, 0) = I
            quota(-1, 5) = I
            quota(0, 0) = A
            quota(0, 10000) = A
            arm(true) = 0
            quota(0, 9999) = -9
            house(3) = 1
            quota(0, 7) = 9999
            arm(true) = 0
            quota(0, 8) = -9
            ofAccount(0, 4) = 7
            """);
        Runs.run("17 arm, 18 fall, 19 image, 20 knock", """
            arm(false) = 0
            arm(true) = 0
            arm(true) = 1
            house(1) = 1
            quota(0, 3) = -9
            arm(true) = 0
            fall() = 0
            house(1) = 0
            house(3) = 1
            house(4) = 2
            quota(0, 3) = 400
            upload(0, 1, 2, 3, 4, 5) = 1
            house(2) = 2
            newMailbox(0, 1, -1, 0, 0) = 0
            newMailbox(1, 1, -1, 0, 0) = 0
            bind(1, 0, 0) = 0
            filter(0, 4, -1, -1, -1, -1) = 1
            sequence(0, 2, true, true) = 0
            clock(7) = 0
            knock() = 1
            fall() = 2
            ofAccount(0, 0) = 0
            ofAccount(1, 0) = 0
            ofAccount(1, 1) = -1
            house(0) = 7
            house(10) = 1
            ofAccount(0, 4) = 3
            blobs(0) = b1
            sequence(0, 0, false, false) = 2
            image() = 2
            house(2) = 0
            image() = 0
            fall() = 0
            blobs(0) = b1
            ofAccount(0, 4) = 3
            quota(0, 4) = 3
            fall() = 1
            ofAccount(0, 4) = 4
            knock() = 2
            knock() = 3
            house(10) = 3
            """);
        Runs.run("18 fall leaves states and answers, 19 image leaves what is armed and typed", """
            newMailbox(0, 1, -1, 0, 0) = 0
            run(0) = m1
            fall() = 1
            answer(0) = m1
            state(0, 0) = 1
            changes(0, 0, 0, 9) = 1 +m1
            then(0, 0, 0) =
            newMailbox(0, 2, -1, 0, 0) = 0
            arm(true) = 0
            image() = 1
            ofAccount(0, 0) = 1
            house(1) = 1
            run(0) = torn
            fall() = 0
            answer(0) = torn
            mailboxes(0) = m1
            """);
    }

    private static void requestPromises() {
        Runs.run("5 newMailbox", """
            newMailbox(2, 0, -1, 0, 0) = I
            newMailbox(-1, 20, -1, 0, 0) = I
            newMailbox(0, -1, -1, 0, 0) = A
            newMailbox(0, 20, -1, 0, 0) = A
            newMailbox(0, 0, 0, 0, 0) = A
            newMailbox(0, 0, -2, 0, 0) = A
            newMailbox(0, 0, -2147483648, 0, 0) = A
            newMailbox(0, 0, -1, -1, 0) = A
            newMailbox(0, 0, -1, 6, 0) = A
            newMailbox(0, 0, -1, 0, -1) = A
            newMailbox(0, 0, -1, 0, 10) = A
            newMailbox(0, 19, -1, 5, 9) = 0
            newMailbox(0, 0, -3, 0, 0) = A
            newMailbox(0, 0, -2, 0, 0) = 1
            newMailbox(0, 0, -2, 0, 0) = 2
            newMailbox(0, 0, -3, 0, 0) = 3
            newMailbox(0, 0, 2147483647, 0, 0) = 4
            newMailbox(0, 1, -4, 0, 0) = 5
            newMailbox(0, 1, -5, 0, 0) = 6
            newMailbox(0, 2, -1, 5, 0) = 7
            newMailbox(0, 0, -1, 0, 0) = S
            newMailbox(0, 0, -10, 0, 0) = A
            newMailbox(0, 0, -9, 0, 0) = S
            newMailbox(0, 20, -1, 0, 0) = A
            newMailbox(2, 0, -1, 0, 0) = I
            run(0) = m1 m2 taken m3 notfound noref deep taken
            mailboxes(0) = m2 m3 m1
            path(0, 3) = 19/0/0
            """);
        Runs.run("5 at most eight mailboxes, and which word goes ahead", """
            newMailbox(0, 0, -1, 0, 0) = 0
            newMailbox(0, 1, -1, 0, 0) = 1
            newMailbox(0, 2, -1, 0, 0) = 2
            newMailbox(0, 3, -1, 0, 0) = 3
            newMailbox(0, 4, -1, 0, 0) = 4
            newMailbox(0, 5, -1, 0, 0) = 5
            newMailbox(0, 0, 1, 1, 0) = 6
            run(0) = m1 m2 m3 m4 m5 m6 m7
            newMailbox(0, 0, 7, 0, 0) = 0
            newMailbox(0, 0, -2, 0, 0) = 1
            newMailbox(0, 0, 8, 1, 0) = 2
            newMailbox(0, 0, 77, 1, 0) = 3
            newMailbox(0, 0, -3, 0, 0) = 4
            dropMailbox(0, -2, false) = 5
            newMailbox(0, 9, -2, 0, 0) = 6
            newMailbox(0, 9, 7, 1, 0) = 7
            run(0) = m8 many many notfound noref ok notfound taken
            newMailbox(0, 0, -1, 0, 0) = 0
            newMailbox(0, 9, 7, 0, 9) = 1
            newMailbox(0, 0, -1, 0, 0) = 2
            run(0) = taken m9 many
            newMailbox(0, 0, 9, 1, 0) = 0
            run(0) = many
            """);
        Runs.run("5 taken goes ahead of deep; names of another parent and roles 0 are free", """
            newMailbox(0, 0, -1, 1, 0) = 0
            newMailbox(0, 0, -2, 0, 0) = 1
            newMailbox(0, 0, -3, 0, 0) = 2
            newMailbox(0, 0, -4, 1, 0) = 3
            newMailbox(0, 0, -4, 0, 0) = 4
            newMailbox(1, 0, -1, 1, 0) = 0
            run(0) = m1 m2 m3 taken deep
            run(1) = m1
            ofMailbox(0, 3, 4) = 3
            """);
        Runs.run("6 changeMailbox, wrong inputs", """
            changeMailbox(2, 0, 0, 0) = I
            changeMailbox(0, 0, 0, 0) = A
            changeMailbox(0, -1, 0, 0) = A
            changeMailbox(0, -2, 0, 0) = A
            changeMailbox(0, 1, -1, 0) = A
            changeMailbox(0, 1, 4, 0) = A
            changeMailbox(0, 1, 0, -1) = A
            changeMailbox(0, 1, 0, 20) = A
            changeMailbox(0, 1, 1, 0) = A
            changeMailbox(0, 1, 1, -2) = A
            changeMailbox(0, 1, 2, -1) = A
            changeMailbox(0, 1, 2, 6) = A
            changeMailbox(0, 1, 3, -1) = A
            changeMailbox(0, 1, 3, 10) = A
            changeMailbox(0, 1, 0, 19) = 0
            changeMailbox(0, 1, 1, -1) = 1
            changeMailbox(0, 1, 1, -3) = 2
            changeMailbox(0, -2, 2, 5) = 3
            changeMailbox(0, 5, 3, 9) = 4
            changeMailbox(0, 1, 1, 9) = 5
            changeMailbox(0, -9, 0, 0) = A
            changeMailbox(0, 1, 0, 0) = 6
            changeMailbox(0, -8, 0, 0) = 7
            changeMailbox(0, 1, 0, 0) = S
            changeMailbox(0, 1, 4, 0) = A
            run(0) = notfound notfound noref noref notfound notfound notfound noref
            """);
        Runs.run("6 changeMailbox", """
            newMailbox(0, 0, -1, 1, 0) = 0
            newMailbox(0, 1, -2, 2, 0) = 1
            newMailbox(0, 2, -3, 0, 0) = 2
            newMailbox(0, 1, -1, 0, 0) = 3
            newMailbox(0, 3, -5, 0, 0) = 4
            run(0) = m1 m2 m3 m4 m5
            changeMailbox(0, 4, 0, 0) = 0
            changeMailbox(0, 4, 0, 1) = 1
            changeMailbox(0, 4, 2, 1) = 2
            changeMailbox(0, 1, 2, 1) = 3
            changeMailbox(0, 4, 2, 0) = 4
            changeMailbox(0, 1, 1, 1) = 5
            changeMailbox(0, 1, 1, 3) = 6
            changeMailbox(0, 2, 1, -1) = 7
            run(0) = taken ok taken ok ok ring ring taken
            changeMailbox(0, 4, 1, 2) = 0
            changeMailbox(0, 4, 1, 1) = 1
            changeMailbox(0, 4, 0, 2) = 2
            changeMailbox(0, 4, 1, 3) = 3
            changeMailbox(0, 4, 1, 2) = 4
            changeMailbox(0, 4, 1, 1) = 5
            changeMailbox(0, 4, 1, 1) = 6
            changeMailbox(0, 4, 3, 9) = 7
            run(0) = deep taken ok deep taken ok ok ok
            path(0, 5) = 0/2/3
            changeMailbox(0, 2, 1, 5) = 0
            changeMailbox(0, 5, 1, 3) = 1
            changeMailbox(0, 5, 1, 2) = 2
            changeMailbox(0, 77, 1, 2) = 3
            changeMailbox(0, 2, 1, 77) = 4
            changeMailbox(0, 2, 1, -6) = 5
            newMailbox(0, 9, -1, 5, 0) = 6
            changeMailbox(0, 2, 1, -8) = 7
            run(0) = deep deep ok notfound notfound noref m6 ok
            path(0, 3) = 9/1/2
            mailboxes(0) = m1 m2 m3 m5 m6 m4
            changeMailbox(0, 6, 2, 0) = 0
            newMailbox(0, 10, -1, 5, 0) = 1
            changeMailbox(0, 6, 2, 5) = 2
            run(0) = ok m7 taken
            ofMailbox(0, 6, 2) = 0
            """);
        Runs.run("6 changeMailbox, with two levels under it, and a parent that came later", """
            newMailbox(0, 0, -1, 0, 0) = 0
            newMailbox(0, 1, -2, 0, 0) = 1
            newMailbox(0, 2, -3, 0, 0) = 2
            newMailbox(0, 3, -1, 0, 0) = 3
            newMailbox(0, 4, -5, 0, 0) = 4
            changeMailbox(0, -2, 1, -5) = 5
            changeMailbox(0, -3, 1, -5) = 6
            changeMailbox(0, -2, 1, -5) = 7
            run(0) = m1 m2 m3 m4 m5 deep ok ok
            path(0, 3) = 3/1/2
            path(0, 1) = 3/0
            ofMailbox(0, 4, 9) = 3
            ofMailbox(0, 1, 9) = 0
            changeMailbox(0, 4, 1, 1) = 0
            dropMailbox(0, 5, false) = 1
            dropMailbox(0, 3, false) = 2
            dropMailbox(0, 2, false) = 3
            dropMailbox(0, 4, false) = 4
            dropMailbox(0, 1, false) = 5
            dropMailbox(0, 4, false) = 6
            run(0) = ring ok ok ok child ok ok
            mailboxes(0) =
            """);
        Runs.run("7 dropMailbox", """
            dropMailbox(2, 0, true) = I
            dropMailbox(0, 0, true) = A
            dropMailbox(0, -1, true) = A
            dropMailbox(0, -2, true) = A
            upload(0, 1, 0, 0, 1, 0) = 1
            newMailbox(0, 0, -1, 0, 0) = 0
            newMailbox(0, 1, -2, 0, 0) = 1
            newMailbox(0, 1, -1, 0, 0) = 2
            newEmail(0, 1, -2, 0, 0) = 3
            newEmail(0, 1, -3, 0, 0) = 4
            changeEmail(0, -6, 2, -4) = 5
            newEmail(0, 1, -3, 0, 0) = 6
            dropMailbox(0, 9, true) = 7
            dropMailbox(0, 9, true) = S
            dropMailbox(0, -9, true) = S
            dropMailbox(0, -10, true) = A
            run(0) = m1 m2 m3 e1 e2 ok e3 notfound
            dropMailbox(0, 1, true) = 0
            dropMailbox(0, 1, false) = 1
            dropMailbox(0, 2, false) = 2
            dropMailbox(0, -4, false) = 3
            dropMailbox(0, 2, true) = 4
            dropMailbox(0, 2, true) = 5
            dropMailbox(0, 1, false) = 6
            run(0) = child child email noref ok notfound email
            emails(0, -1) = e1 e2
            where(0, 2) = m3
            emails(0, 2) =
            changes(0, 1, 1, 99) = 2 ~e2 -e3
            newMailbox(0, 5, -1, 0, 0) = 0
            dropMailbox(0, -2, false) = 1
            dropMailbox(0, -2, false) = 2
            run(0) = m4 ok notfound
            state(0, 0) = 2
            newMailbox(0, 5, -1, 0, 0) = 0
            run(0) = m5
            """);
        Runs.run("8 newEmail, wrong inputs", """
            newEmail(2, 0, 0, 0, 0) = I
            newEmail(0, 0, 1, 0, 0) = A
            newEmail(0, -2, 1, 0, 0) = A
            newEmail(0, 1, 0, 0, 0) = A
            newEmail(0, 1, -1, 0, 0) = A
            newEmail(0, 1, -2, 0, 0) = A
            newEmail(0, 1, 1, -1, 0) = A
            newEmail(0, 1, 1, 64, 0) = A
            newEmail(0, 1, 1, 0, -1) = A
            newEmail(0, 1, 1, 0, 10000) = A
            newEmail(0, 1, 1, 63, 9999) = 0
            newEmail(0, 1, -2, 0, 0) = 1
            newEmail(0, 99, 1, 0, 0) = 2
            dropEmail(0, 5) = 3
            dropEmail(0, 5) = 4
            dropEmail(0, 5) = 5
            dropEmail(0, 5) = 6
            dropEmail(0, 5) = 7
            newEmail(0, 1, 1, 0, 0) = S
            newEmail(0, 1, 1, 64, 0) = A
            run(0) = notfound noref notfound notfound notfound notfound notfound notfound
            """);
        Runs.run("8 newEmail, quotas and threads", """
            upload(0, 10, 0, 1, 5, 0) = 1
            upload(0, 10, 0, 1, 6, 5) = 2
            upload(0, 10, 0, 2, 6, 5) = 3
            upload(0, 10, 0, 1, 9, 8) = 4
            upload(0, 10, 0, 1, 10, 8) = 5
            upload(0, 11, 0, 1, 11, 6) = 6
            upload(0, 10, 0, 1, 12, 0) = 7
            newMailbox(0, 0, -1, 0, 0) = 0
            newEmail(0, 2, -2, 0, 0) = 1
            newEmail(0, 1, -2, 0, 0) = 2
            newEmail(0, 3, -2, 0, 0) = 3
            newEmail(0, 4, -2, 0, 0) = 4
            newEmail(0, 5, -2, 0, 0) = 5
            newEmail(0, 7, -2, 0, 0) = 6
            newEmail(0, 7, -2, 0, 0) = 7
            run(0) = m1 e1 e2 e3 e4 e5 e6 e7
            thread(0, 1) = e1 e2
            thread(0, 2) = e3
            thread(0, 3) = e4 e5
            thread(0, 4) = e6 e7
            ofAccount(0, 3) = 70
            quota(0, 80) = 400
            newEmail(0, 6, 1, 0, 0) = 0
            newEmail(0, 1, 1, 0, 0) = 1
            newEmail(0, 1, 1, 0, 0) = 2
            newEmail(0, 77, 1, 0, 0) = 3
            newEmail(0, 1, 77, 0, 0) = 4
            run(0) = quota e8 quota notfound notfound
            quota(0, 10) = 80
            dropEmail(0, 1) = 0
            dropEmail(0, 2) = 1
            dropEmail(0, 8) = 2
            dropEmail(0, 3) = 3
            dropEmail(0, 4) = 4
            dropEmail(0, 5) = 5
            dropEmail(0, 6) = 6
            dropEmail(0, 7) = 7
            run(0) = ok ok ok ok ok ok ok ok
            threads(0) =
            newEmail(0, 1, 1, 0, 0) = 0
            run(0) = e9
            threads(0) = t5
            """);
        Runs.run("8 newEmail, the smallest of several threads; those that are there are not joined", """
            upload(0, 1, 0, 0, 5, 0) = 1
            upload(0, 1, 0, 0, 6, 0) = 2
            upload(0, 1, 0, 0, 5, 6) = 3
            upload(0, 1, 0, 0, 6, 5) = 4
            upload(0, 1, 0, 0, 20, 7) = 5
            upload(0, 1, 0, 0, 7, 0) = 6
            upload(0, 1, 0, 0, 30, 0) = 7
            newMailbox(0, 0, -1, 0, 0) = 0
            newEmail(0, 2, -2, 0, 9) = 1
            newEmail(0, 1, -2, 0, 8) = 2
            newEmail(0, 3, -2, 0, 7) = 3
            dropEmail(0, -3) = 4
            newEmail(0, 4, -2, 0, 7) = 5
            newEmail(0, 5, -2, 0, 6) = 6
            newEmail(0, 6, -2, 0, 5) = 7
            run(0) = m1 e1 e2 e3 ok e4 e5 e6
            ofEmail(0, 3, 4) = 1
            ofEmail(0, 2, 4) = 2
            ofEmail(0, 4, 4) = 1
            ofEmail(0, 5, 4) = 3
            ofEmail(0, 6, 4) = 3
            threads(0) = t1 t2 t3
            newEmail(0, 7, 1, 0, 5) = 0
            newEmail(0, 7, 1, 0, 5) = 1
            run(0) = e7 e8
            threads(0) = t1 t2 t3 t4
            """);
        fortyEmails();
        Runs.run("9 changeEmail", """
            changeEmail(2, 0, 0, 0) = I
            changeEmail(0, 0, 0, 0) = A
            changeEmail(0, -1, 0, 0) = A
            changeEmail(0, -2, 0, 0) = A
            changeEmail(0, 1, -1, 0) = A
            changeEmail(0, 1, 4, 1) = A
            changeEmail(0, 1, 0, -1) = A
            changeEmail(0, 1, 0, 6) = A
            changeEmail(0, 1, 1, 6) = A
            changeEmail(0, 1, 2, 0) = A
            changeEmail(0, 1, 2, -1) = A
            changeEmail(0, 1, 3, -2) = A
            upload(0, 1, 0, 0, 1, 0) = 1
            newMailbox(0, 0, -1, 0, 0) = 0
            newMailbox(0, 1, -1, 0, 0) = 1
            newEmail(0, 1, -3, 32, 0) = 2
            changeEmail(0, -4, 2, -2) = 3
            changeEmail(0, -4, 0, 5) = 4
            changeEmail(0, -4, 0, 0) = 5
            changeEmail(0, -4, 1, 5) = 6
            changeEmail(0, -3, 1, 5) = 7
            changeEmail(0, -4, 1, 5) = S
            changeEmail(0, -4, 4, 5) = A
            run(0) = m1 m2 e1 ok ok ok ok noref
            where(0, 1) = m1 m2
            ofEmail(0, 1, 2) = 1
            ofEmail(0, 1, 3) = 2
            changeEmail(0, 1, 3, 2) = 0
            changeEmail(0, 1, 3, 2) = 1
            changeEmail(0, 1, 3, 1) = 2
            changeEmail(0, 1, 2, 1) = 3
            changeEmail(0, 1, 3, 7) = 4
            changeEmail(0, 7, 3, 1) = 5
            changeEmail(0, 7, 0, 1) = 6
            changeEmail(0, 7, 2, -2) = 7
            run(0) = ok ok last ok notfound notfound notfound noref
            where(0, 1) = m1
            ofEmail(0, 1, 3) = 1
            changeEmail(0, 1, 1, 1) = 0
            changeEmail(0, 1, 2, 1) = 1
            run(0) = ok ok
            state(0, 1) = 2
            house(5) = 3
            """);
        Runs.run("10 dropEmail", """
            dropEmail(2, 0) = I
            dropEmail(0, 0) = A
            dropEmail(0, -1) = A
            dropEmail(0, -2) = A
            upload(0, 7, 0, 0, 1, 0) = 1
            newMailbox(0, 0, -1, 0, 0) = 0
            newEmail(0, 1, -2, 0, 0) = 1
            newEmail(0, 1, -2, 0, 0) = 2
            dropEmail(0, -3) = 3
            dropEmail(0, -3) = 4
            dropEmail(0, -2) = 5
            dropEmail(0, 1) = 6
            dropEmail(0, 2) = 7
            dropEmail(0, 2) = S
            run(0) = m1 e1 e2 ok notfound noref notfound ok
            emails(0, -1) =
            threads(0) =
            state(0, 1) = 0
            state(0, 2) = 0
            ofAccount(0, 3) = 0
            newEmail(0, 1, 1, 0, 0) = 0
            run(0) = e3
            threads(0) = t2
            """);
        Runs.run("11 submit, 12 undo", """
            submit(2, 0, 0, 0) = I
            submit(0, 0, 0, 0) = A
            submit(0, -1, 0, 0) = A
            submit(0, -2, 0, 0) = A
            submit(0, 1, -1, 0) = A
            submit(0, 1, 3, 0) = A
            submit(0, 1, 0, -1) = A
            submit(0, 1, 0, 10000) = A
            undo(2, 0) = I
            undo(0, 0) = A
            undo(0, -1) = A
            undo(0, -2) = A
            upload(0, 7, 0, 0, 1, 0) = 1
            newMailbox(0, 0, -1, 0, 0) = 0
            newEmail(0, 1, -2, 0, 0) = 1
            submit(0, -3, 2, 9999) = 2
            submit(0, -2, 2, 0) = 3
            submit(0, 9, 2, 0) = 4
            undo(0, -4) = 5
            undo(0, -4) = 6
            undo(0, -3) = 7
            undo(0, 1) = S
            submit(0, 1, 0, 0) = S
            submit(0, 1, 3, 0) = A
            undo(0, -10) = A
            run(0) = m1 e1 s1 noref notfound ok sent noref
            submissions(0) = s1:2
            undo(0, 2) = 0
            submit(0, 1, 2, 5) = 1
            submit(0, 1, 1, 6) = 2
            dropEmail(0, 1) = 3
            submit(0, 1, 2, 5) = 4
            run(0) = notfound s2 s3 ok notfound
            submissions(0) = s1:2 s2:0 s3:0
            ofAccount(0, 10) = 2
            house(9) = 1
            """);
        Runs.run("13 bind, 14 clear", """
            bind(2, 4, -1) = I
            bind(-1, 0, 0) = I
            bind(0, -1, 0) = A
            bind(0, 4, 0) = A
            bind(0, 0, -1) = A
            bind(0, 3, 2147483647) = 0
            ofAccount(0, 1) = 3
            ofAccount(0, 2) = 2147483647
            bind(0, 0, 0) = 0
            newMailbox(0, 0, -1, 0, 0) = 0
            newMailbox(0, 0, -1, 0, 0) = 1
            clear(0) = 2
            ofAccount(0, 0) = 0
            ofAccount(0, 1) = -1
            ofAccount(0, 2) = -1
            clear(0) = 0
            clear(2) = I
            clear(-1) = I
            newMailbox(0, 0, -1, 0, 0) = 0
            bind(0, 0, 0) = 0
            run(0) = m1
            ofAccount(0, 1) = -1
            bind(0, 0, 0) = 1
            newMailbox(0, 1, -1, 0, 0) = 0
            arm(true) = 0
            run(0) = state
            house(1) = 1
            house(6) = 1
            ofAccount(0, 0) = 0
            ofAccount(0, 1) = -1
            mailboxes(0) = m1
            house(2) = 1
            """);
        Runs.run("15 run", """
            run(2) = I
            run(-1) = I
            run(0) =
            house(5) = 0
            bind(0, 0, 1) = 0
            run(0) = state
            answer(0) = state
            house(6) = 1
            bind(0, 0, 0) = 0
            run(0) =
            answer(0) =
            ofAccount(0, 1) = -1
            dropEmail(0, 1) = 0
            arm(true) = 0
            run(0) = notfound
            house(1) = 1
            house(2) = 0
            house(5) = 0
            newMailbox(1, 0, -1, 0, 0) = 0
            newMailbox(0, 0, -1, 0, 0) = 0
            bind(1, 1, 0) = 0
            run(0) = torn
            answer(0) = torn
            answer(1) =
            house(1) = 0
            house(2) = 0
            house(3) = 1
            house(4) = 1
            house(5) = 0
            ofAccount(0, 0) = 0
            ofAccount(1, 0) = 0
            ofAccount(1, 1) = -1
            mailboxes(0) =
            newMailbox(0, 0, -1, 0, 0) = 0
            run(0) = m1
            house(5) = 1
            house(2) = 1
            changeMailbox(0, 1, 0, 0) = 0
            run(0) = ok
            house(2) = 2
            house(5) = 2
            state(0, 0) = 1
            changeMailbox(0, 1, 0, 0) = 0
            arm(true) = 0
            run(0) = torn
            """);
        Runs.run("15 a step that is not done makes nothing, one that names it has no reference", """
            upload(0, 5, 0, 0, 1, 0) = 1
            newMailbox(0, 0, -1, 0, 0) = 0
            newMailbox(0, 0, -1, 0, 0) = 1
            newEmail(0, 1, -3, 0, 0) = 2
            newEmail(0, 1, -2, 0, 0) = 3
            changeEmail(0, -3, 2, -2) = 4
            changeEmail(0, -5, 2, -5) = 5
            submit(0, -4, 2, 0) = 6
            changeEmail(0, -6, 0, 0) = 7
            run(0) = m1 taken noref e1 noref noref noref noref
            """);
    }

    private static void fortyEmails() {
        StringBuilder lines = new StringBuilder();
        lines.append("quota(0, 9999) = 400\nupload(0, 1, 0, 0, 1, 0) = 1\nnewMailbox(0, 0, -1, 0, 0) = 0\nrun(0) = m1\n");
        for (int email = 1; email <= 40; email++) {
            lines.append("newEmail(0, 1, 1, 0, 0) = 0\nrun(0) = e").append(email).append('\n');
        }
        lines.append("quota(0, 40) = 9999\nnewEmail(0, 1, 1, 0, 0) = 0\nnewEmail(0, 2, 1, 0, 0) = 1\n");
        lines.append("run(0) = many notfound\nofAccount(0, 6) = 40\nask(0, 0, -2, 40) = e39 e40\n");
        lines.append("state(0, 1) = 40\nthen(0, 1, 16) = cannot\n");
        lines.append("changes(0, 1, 17, 99) = 40");
        for (int email = 18; email <= 40; email++) {
            lines.append(" +e").append(email);
        }
        lines.append("\nchanges(0, 1, 16, 99) = cannot\nchanges(0, 2, 17, 1) = 40 ~t1\nqueryChanges(0, 0, 16) = cannot\nqueryChanges(0, 0, 38) = 38:e39 39:e40\n");
        lines.append("dropMailbox(0, 1, true) = 0\nrun(0) = ok\nchanges(0, 1, 40, 39) = cannot\nchanges(0, 1, 40, 40) = 41");
        for (int email = 1; email <= 40; email++) {
            lines.append(" -e").append(email);
        }
        lines.append("\nchanges(0, 2, 17, 1) = cannot\nchanges(0, 2, 18, 1) = 41 -t1\nthen(0, 2, 40) = t1\nthen(0, 2, 41) =\n");
        Runs.run("8 at most forty emails; 27 at most 24 states", lines.toString());
    }
}
