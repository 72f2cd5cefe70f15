/** A mail server for two accounts: what it does is told, promise by promise, in ../shared/DOC.md. */
public final class Mailroom {
    private static final int NONE = -1;
    private static final int REFUSED = -9;
    /** What a name of something that no STEP made comes to: no ID, and not NONE either. */
    private static final int NOREF = 0;

    private static final int ACCOUNTS = 2;
    private static final int QUERIES = 4;
    private static final int MOST_STEPS = 8;
    private static final int MOST_MAILBOXES = 8;
    private static final int MOST_EMAILS = 40;
    private static final int MOST_DEPTH = 3;
    private static final int MOST_TOLD = 99;
    private static final int LAST_TIME = 9999;
    private static final int KNOWN_STATES = 24;
    /** An ID is taken by a call at the least, and an object has 512 calls: so 9 words of bits hold all IDS. */
    private static final int WORDS = 9;
    private static final int LAST_ID = WORDS * 64 - 1;

    private static final int MAILBOX = 0;
    private static final int EMAIL = 1;
    private static final int THREAD = 2;
    private static final int SUBMISSION = 3;
    private static final int TYPES = 4;

    private static final int NAME = 0;
    private static final int PARENT = 1;
    private static final int ROLE = 2;
    private static final int ORDER = 3;
    private static final int COUNTS = 4;
    private static final int MAILBOX_CELLS = 8;

    private static final int INBOX = 1;
    private static final int DRAFTS = 2;
    private static final int SENT_MAIL = 3;
    private static final int LAST_ROLE = 5;

    private static final int SIZE = 0;
    private static final int FROM = 1;
    private static final int SUBJECT = 2;
    private static final int MESSAGE = 3;
    private static final int REPLY = 4;
    private static final int BLOB_CELLS = 5;

    private static final int ITS_BLOB = 0;
    private static final int RECEIVED = 1;
    private static final int KEYWORDS = 2;
    private static final int BOXES = 3;
    private static final int ITS_THREAD = 4;
    /** From here on an EMAIL has the cells of its BLOB, so that they outlive that. */
    private static final int OF_BLOB = 5;
    private static final int BOX = OF_BLOB + BLOB_CELLS;
    private static final int EMAIL_CELLS = BOX + MOST_MAILBOXES;

    private static final int SEEN_OR_DRAFT = 3;
    private static final int DRAFT = 1;
    private static final int LAST_KEYWORD = 5;
    private static final int ALL_KEYWORDS = 63;

    private static final int ITS_EMAIL = 0;
    private static final int TO = 1;
    private static final int TIME = 2;
    private static final int HOW = 3;
    private static final int SUBMISSION_CELLS = 4;

    private static final int PENDING = 0;
    private static final int SENT = 1;
    private static final int UNDONE = 2;
    private static final int BOUNCED = 3;
    private static final int ELSEWHERE = 2;

    /** What a change of an EMAIL does. */
    private static final int GETS = 0;
    private static final int LOSES = 1;
    private static final int INTO = 2;
    private static final int OUT_OF = 3;

    private static final char[] LETTERS = {'m', 'e', 't', 's'};

    private final Account first = new Account();
    private final Account second = new Account();
    private final Query[] queries = new Query[QUERIES];
    private final StringBuilder text = new StringBuilder();
    private final Line line = new Line();
    private final Line oldLine = new Line();
    private final Line ledLine = new Line();
    private int clock;
    private boolean isArmed;
    private int records;
    private int tears;
    private int falls;
    private int ran;
    private int stale;
    private int knocks;

    public Mailroom() {
        for (int query = 0; query < QUERIES; query++) {
            queries[query] = new Query();
        }
    }

    // ---- blobs, quotas

    public int upload(int account, int size, int from, int subject, int message, int reply)
            throws IndexOutOfBoundsException, IllegalArgumentException {
        Account of = accountOf(account);
        check(isWithin(size, 1, 99) && isWithin(from, 0, 9) && isWithin(subject, 0, 9));
        check(isWithin(message, 1, 99) && isWithin(reply, 0, 99));
        int blob = of.live.addBlob(size, from, subject, message, reply);
        return blob != NONE && write() ? blob : REFUSED;
    }

    public int sweep(int account) throws IndexOutOfBoundsException {
        Account of = accountOf(account);
        int swept = of.live.dropUnusedBlobs();
        return swept == 0 || write() ? swept : REFUSED;
    }

    public int quota(int account, int limit) throws IndexOutOfBoundsException, IllegalArgumentException {
        Account of = accountOf(account);
        check(isWithin(limit, 1, 9999));
        int was = of.live.quota;
        of.live.quota = limit;
        return write() ? was : REFUSED;
    }

    // ---- requests

    public int newMailbox(int account, int name, int parent, int role, int order)
            throws IndexOutOfBoundsException, IllegalArgumentException, IllegalStateException {
        Request request = accountOf(account).request;
        check(isWithin(name, 0, 19) && isWithin(role, 0, LAST_ROLE) && isWithin(order, 0, 9));
        check(isParent(request, parent));
        return typed(request, Request.NEW_MAILBOX, NONE, parent, name, role, order);
    }

    public int changeMailbox(int account, int mailbox, int what, int value)
            throws IndexOutOfBoundsException, IllegalArgumentException, IllegalStateException {
        Request request = accountOf(account).request;
        check(isThing(request, mailbox));
        check(isMailboxValue(request, what, value));
        return typed(request, Request.CHANGE_MAILBOX, mailbox, what == PARENT ? value : NONE, what, value, 0);
    }

    public int dropMailbox(int account, int mailbox, boolean isWith)
            throws IndexOutOfBoundsException, IllegalArgumentException, IllegalStateException {
        Request request = accountOf(account).request;
        check(isThing(request, mailbox));
        return typed(request, Request.DROP_MAILBOX, mailbox, NONE, isWith ? 1 : 0, 0, 0);
    }

    public int newEmail(int account, int blob, int mailbox, int keywords, int received)
            throws IndexOutOfBoundsException, IllegalArgumentException, IllegalStateException {
        Request request = accountOf(account).request;
        check(blob >= 1 && isThing(request, mailbox));
        check(isWithin(keywords, 0, ALL_KEYWORDS) && isWithin(received, 0, LAST_TIME));
        return typed(request, Request.NEW_EMAIL, NONE, mailbox, blob, keywords, received);
    }

    public int changeEmail(int account, int email, int what, int value)
            throws IndexOutOfBoundsException, IllegalArgumentException, IllegalStateException {
        Request request = accountOf(account).request;
        check(isThing(request, email) && isWithin(what, 0, OUT_OF));
        boolean isOfKeyword = what <= LOSES;
        check(isOfKeyword ? isWithin(value, 0, LAST_KEYWORD) : isThing(request, value));
        return typed(request, Request.CHANGE_EMAIL, email, isOfKeyword ? NONE : value, what, value, 0);
    }

    public int dropEmail(int account, int email)
            throws IndexOutOfBoundsException, IllegalArgumentException, IllegalStateException {
        Request request = accountOf(account).request;
        check(isThing(request, email));
        return typed(request, Request.DROP_EMAIL, email, NONE, 0, 0, 0);
    }

    public int submit(int account, int email, int to, int time)
            throws IndexOutOfBoundsException, IllegalArgumentException, IllegalStateException {
        Request request = accountOf(account).request;
        check(isThing(request, email) && isWithin(to, 0, ELSEWHERE) && isWithin(time, 0, LAST_TIME));
        return typed(request, Request.SUBMIT, email, NONE, to, time, 0);
    }

    public int undo(int account, int submission)
            throws IndexOutOfBoundsException, IllegalArgumentException, IllegalStateException {
        Request request = accountOf(account).request;
        check(isThing(request, submission));
        return typed(request, Request.UNDO, submission, NONE, 0, 0, 0);
    }

    public int bind(int account, int type, int state) throws IndexOutOfBoundsException, IllegalArgumentException {
        Account of = accountOf(account);
        check(isWithin(type, 0, TYPES - 1) && state >= 0);
        of.request.boundType = type;
        of.request.boundState = state;
        return of.historyOf(type).state;
    }

    public int clear(int account) throws IndexOutOfBoundsException {
        Request request = accountOf(account).request;
        int had = request.size;
        request.empty();
        return had;
    }

    public String run(int account) throws IndexOutOfBoundsException {
        Account of = accountOf(account);
        of.lastAnswer = outcome(of);
        return of.lastAnswer;
    }

    // ---- the clock, the store

    public int clock(int by) throws IllegalArgumentException {
        check(isWithin(by, 0, 999));
        clock += by;
        for (int sent = 0; sent <= ACCOUNTS * LAST_ID; sent++) {
            int ofFirst = first.live.earliestDue(clock);
            int ofSecond = second.live.earliestDue(clock);
            if (ofFirst == NONE && ofSecond == NONE) {
                return sent;
            }
            boolean isFirst = ofSecond == NONE
                    || ofFirst != NONE && first.live.timeOf(ofFirst) <= second.live.timeOf(ofSecond);
            if (!send(isFirst ? first : second, isFirst ? ofFirst : ofSecond)) {
                return REFUSED;
            }
        }
        return REFUSED;
    }

    public int arm(boolean isArmed) {
        int was = this.isArmed ? 1 : 0;
        this.isArmed = isArmed;
        return was;
    }

    public int fall() {
        rise();
        return records;
    }

    public int image() {
        int had = records;
        records = 0;
        return had;
    }

    public int knock() {
        knocks++;
        return knocks;
    }

    // ---- queries

    public int filter(int query, int mailbox, int keyword, int without, int from, int subject)
            throws IndexOutOfBoundsException, IllegalArgumentException {
        Query told = queryOf(query);
        check((mailbox == NONE || mailbox >= 1) && isWithin(keyword, NONE, LAST_KEYWORD));
        check(isWithin(without, NONE, LAST_KEYWORD) && isWithin(from, NONE, 9) && isWithin(subject, NONE, 9));
        told.mailbox = mailbox;
        told.keyword = keyword;
        told.without = without;
        told.from = from;
        told.subject = subject;
        return told.conditions();
    }

    public int sequence(int query, int by, boolean isFalling, boolean isCollapsed)
            throws IndexOutOfBoundsException, IllegalArgumentException {
        Query told = queryOf(query);
        check(isWithin(by, 0, Query.BY_SUBJECT));
        int was = told.by;
        told.by = by;
        told.isFalling = isFalling;
        told.isCollapsed = isCollapsed;
        return was;
    }

    public String ask(int query, int account, int position, int many)
            throws IndexOutOfBoundsException, IllegalArgumentException {
        Query asked = queryOf(query);
        Account of = accountOf(account);
        check(isWithin(many, 0, MOST_EMAILS));
        asked.fill(line, of.live.emails);
        return part(position < 0 ? line.size + position : position, many);
    }

    public String askAt(int query, int account, int anchor, int offset, int many)
            throws IndexOutOfBoundsException, IllegalArgumentException {
        Query asked = queryOf(query);
        Account of = accountOf(account);
        check(isWithin(many, 0, MOST_EMAILS));
        asked.fill(line, of.live.emails);
        int place = line.placeOf(anchor);
        if (place == NONE) {
            return "anchor";
        }
        // as a long, since the OFFSET is any int
        long from = (long) place + offset;
        return part((int) Math.max(0L, Math.min(from, line.size)), many);
    }

    public int total(int query, int account) throws IndexOutOfBoundsException {
        Query asked = queryOf(query);
        Account of = accountOf(account);
        asked.fill(line, of.live.emails);
        return line.size;
    }

    public String queryChanges(int query, int account, int since) throws IndexOutOfBoundsException {
        Query asked = queryOf(query);
        Account of = accountOf(account);
        if (!of.historyOf(EMAIL).isKnown(since)) {
            return "cannot";
        }
        asked.fill(oldLine, of.emailsAt(since));
        asked.fill(line, of.live.emails);
        text.setLength(0);
        writeLost();
        writeGained();
        return text.toString();
    }

    public String changes(int account, int type, int since, int most)
            throws IndexOutOfBoundsException, IllegalArgumentException {
        Account of = accountOf(account);
        check(isWithin(type, 0, TYPES - 1) && isWithin(most, 1, MOST_TOLD));
        writeChanges(of, type, since, most);
        return text.toString();
    }

    // ---- what is asked

    public int state(int account, int type) throws IndexOutOfBoundsException, IllegalArgumentException {
        Account of = accountOf(account);
        check(isWithin(type, 0, TYPES - 1));
        return of.historyOf(type).state;
    }

    public String then(int account, int type, int since) throws IndexOutOfBoundsException, IllegalArgumentException {
        Account of = accountOf(account);
        check(isWithin(type, 0, TYPES - 1));
        History history = of.historyOf(type);
        if (!history.isKnown(since)) {
            return "cannot";
        }
        text.setLength(0);
        history.standAt(since);
        writeSet(history.stood, "", letterOf(type));
        return text.toString();
    }

    public String mailboxes(int account) throws IndexOutOfBoundsException {
        writeMailboxes(accountOf(account).live.mailboxes);
        return text.toString();
    }

    public int ofMailbox(int account, int mailbox, int what)
            throws IndexOutOfBoundsException, IllegalArgumentException {
        Holdings live = accountOf(account).live;
        check(isWithin(what, 0, 9));
        int row = live.mailboxes.rowOf(mailbox);
        if (row == NONE) {
            return REFUSED;
        }
        if (what == 4) {
            return live.depthOf(mailbox);
        }
        if (what == 9) {
            return live.childrenOf(mailbox);
        }
        // behind DEPTH, which has no cell, each number is one ahead of its cell
        return live.mailboxes.cell(row, what < 4 ? what : what - 1);
    }

    public String path(int account, int mailbox) throws IndexOutOfBoundsException {
        Holdings live = accountOf(account).live;
        text.setLength(0);
        if (live.mailboxes.has(mailbox)) {
            for (int up = live.depthOf(mailbox) - 1; up >= 0; up--) {
                text.append(live.mailboxes.of(live.above(mailbox, up), NAME));
                if (up > 0) {
                    text.append('/');
                }
            }
        }
        return text.toString();
    }

    public int inRole(int account, int role) throws IndexOutOfBoundsException, IllegalArgumentException {
        Account of = accountOf(account);
        check(isWithin(role, 0, LAST_ROLE));
        return of.live.holderOf(role);
    }

    public String emails(int account, int mailbox) throws IndexOutOfBoundsException {
        Table emails = accountOf(account).live.emails;
        text.setLength(0);
        for (int row = 0; row < emails.size; row++) {
            if (mailbox == NONE || isIn(emails, row, mailbox)) {
                writeId('e', emails.idAt(row));
            }
        }
        return text.toString();
    }

    public int ofEmail(int account, int email, int what) throws IndexOutOfBoundsException, IllegalArgumentException {
        Table emails = accountOf(account).live.emails;
        check(isWithin(what, 0, 10));
        int row = emails.rowOf(email);
        if (row == NONE) {
            return REFUSED;
        }
        return what < 10 ? emails.cell(row, what) : isUnread(emails, row) ? 1 : 0;
    }

    public String where(int account, int email) throws IndexOutOfBoundsException {
        writeWhere(accountOf(account).live.emails, email);
        return text.toString();
    }

    public String threads(int account) throws IndexOutOfBoundsException {
        writeThreads(accountOf(account));
        return text.toString();
    }

    public String thread(int account, int thread) throws IndexOutOfBoundsException {
        Table emails = accountOf(account).live.emails;
        line.empty();
        for (int row = 0; row < emails.size; row++) {
            if (emails.cell(row, ITS_THREAD) == thread) {
                line.put(emails.idAt(row), emails.cell(row, RECEIVED), thread);
            }
        }
        return part(0, line.size);
    }

    public String blobs(int account) throws IndexOutOfBoundsException {
        writeBlobs(accountOf(account).live.blobs);
        return text.toString();
    }

    public String submissions(int account) throws IndexOutOfBoundsException {
        writeSubmissions(accountOf(account).live.submissions);
        return text.toString();
    }

    public int ofSubmission(int account, int submission, int what)
            throws IndexOutOfBoundsException, IllegalArgumentException {
        Table submissions = accountOf(account).live.submissions;
        check(isWithin(what, 0, SUBMISSION_CELLS - 1));
        int row = submissions.rowOf(submission);
        return row == NONE ? REFUSED : submissions.cell(row, what);
    }

    public int ofAccount(int account, int what) throws IndexOutOfBoundsException, IllegalArgumentException {
        Account of = accountOf(account);
        check(isWithin(what, 0, 10));
        switch (what) {
            case 0: return of.request.size;
            case 1: return of.request.boundType;
            case 2: return of.request.boundState;
            case 3: return of.live.used();
            case 4: return of.live.quota;
            case 5: return of.live.mailboxes.size;
            case 6: return of.live.emails.size;
            case 7: return of.live.threadCount();
            case 8: return of.live.blobs.size;
            case 9: return of.live.submissions.size;
            default: return of.live.submissionsThatAre(PENDING);
        }
    }

    public String answer(int account) throws IndexOutOfBoundsException {
        return accountOf(account).lastAnswer;
    }

    // ---- the whole

    public int house(int what) throws IllegalArgumentException {
        check(isWithin(what, 0, 10));
        switch (what) {
            case 0: return clock;
            case 1: return isArmed ? 1 : 0;
            case 2: return records;
            case 3: return tears;
            case 4: return falls;
            case 5: return ran;
            case 6: return stale;
            case 7: return submissionsThatAre(SENT);
            case 8: return submissionsThatAre(BOUNCED);
            case 9: return submissionsThatAre(UNDONE);
            default: return knocks;
        }
    }

    public boolean isSound() {
        return first.isRight() && second.isRight() && areQueriesRight(first) && areQueriesRight(second);
    }

    public long digest() {
        long d = 7675;
        for (int what = 0; what <= 10; what++) {
            d = d * 31 + house(what);
        }
        for (int account = 0; account < ACCOUNTS; account++) {
            d = withNumbers(d, account);
            d = withMailboxes(d, account);
            d = withEmails(d, account);
            d = withLengths(d, account);
            d = withChanges(d, account);
        }
        return d * 31 + (isSound() ? 1 : 0);
    }

    // ---- what is told is looked at

    private static void check(boolean isRight) {
        if (!isRight) {
            throw new IllegalArgumentException("a number that it can not be");
        }
    }

    private static boolean isWithin(int number, int least, int most) {
        return number >= least && number <= most;
    }

    private Account accountOf(int account) {
        if (account < 0 || account >= ACCOUNTS) {
            throw new IndexOutOfBoundsException("no such account");
        }
        return account == 0 ? first : second;
    }

    private Query queryOf(int query) {
        Query found = query < 0 || query >= QUERIES ? null : queries[query];
        if (found == null) {
            throw new IndexOutOfBoundsException("no such query");
        }
        return found;
    }

    /** Whether a STEP may name that: an ID, or a STEP ahead of it. */
    private static boolean isThing(Request request, int name) {
        return name >= 1 || name < NONE && stepNamed(name) < request.size;
    }

    private static boolean isParent(Request request, int name) {
        return name == NONE || isThing(request, name);
    }

    private static int stepNamed(int name) {
        return -2 - name;
    }

    private static boolean isMailboxValue(Request request, int what, int value) {
        switch (what) {
            case NAME: return isWithin(value, 0, 19);
            case PARENT: return isParent(request, value);
            case ROLE: return isWithin(value, 0, LAST_ROLE);
            case ORDER: return isWithin(value, 0, 9);
            default: return false;
        }
    }

    private static int typed(Request request, int kind, int thing, int place, int one, int two, int three) {
        if (request.size >= MOST_STEPS) {
            throw new IllegalStateException("the request has 8 steps");
        }
        return request.add(kind, thing, place, one, two, three);
    }

    // ---- what is done

    private String outcome(Account of) {
        Request request = of.request;
        if (request.boundType != NONE && of.historyOf(request.boundType).state != request.boundState) {
            request.empty();
            stale++;
            return "state";
        }
        text.setLength(0);
        boolean isDone = false;
        for (int step = 0; step < request.size; step++) {
            Word word = of.act(step);
            isDone = isDone || word == Word.MADE || word == Word.OK;
            writeWord(of, step, word);
        }
        request.empty();
        if (!isDone) {
            return text.toString();
        }
        of.live.recount();
        if (!write()) {
            return "torn";
        }
        ran++;
        return text.toString();
    }

    /** Writes all that is other than the LOG has as one RECORD, unless that is torn; whether it is not. */
    private boolean write() {
        if (isArmed) {
            tears++;
            rise();
            return false;
        }
        records++;
        first.keep();
        second.keep();
        return true;
    }

    private void rise() {
        falls++;
        isArmed = false;
        first.rise();
        second.rise();
    }

    /** Sends one SUBMISSION, and tells whether its RECORD was written. */
    private boolean send(Account from, int row) {
        Table submissions = from.live.submissions;
        int email = from.live.emails.rowOf(submissions.cell(row, ITS_EMAIL));
        int how = BOUNCED;
        if (email != NONE) {
            from.live.fileAway(email);
            how = deliver(from.live.emails, email, submissions.cell(row, TO)) ? SENT : BOUNCED;
        }
        submissions.put(row, HOW, how);
        first.live.recount();
        second.live.recount();
        return write();
    }

    /** Brings what one sends to where it is to go, and tells whether it came there. */
    private boolean deliver(Table emails, int row, int to) {
        if (to == ELSEWHERE) {
            return true;
        }
        Holdings target = to == 0 ? first.live : second.live;
        int inbox = target.holderOf(INBOX);
        if (inbox == NONE || target.blobs.isFull() || !target.isRoomFor(emails.cell(row, OF_BLOB + SIZE))) {
            return false;
        }
        int blob = target.addBlob(emails.cell(row, OF_BLOB + SIZE), emails.cell(row, OF_BLOB + FROM),
                emails.cell(row, OF_BLOB + SUBJECT), emails.cell(row, OF_BLOB + MESSAGE),
                emails.cell(row, OF_BLOB + REPLY));
        target.addEmail(blob, inbox, 0, Math.min(clock, LAST_TIME));
        return true;
    }

    private int submissionsThatAre(int how) {
        return first.live.submissionsThatAre(how) + second.live.submissionsThatAre(how);
    }

    // ---- what is told as a text, written to where all texts are, so that none is made to be measured alone

    private static char letterOf(int type) {
        return type >= 0 && type < LETTERS.length ? LETTERS[type] : '?';
    }

    private void writeBlank() {
        if (text.length() > 0) {
            text.append(' ');
        }
    }

    private void writeId(char letter, int id) {
        writeBlank();
        text.append(letter);
        text.append(id);
    }

    private void writeWord(Account of, int step, Word word) {
        if (word == Word.MADE) {
            writeId(letterOf(of.request.madeType(step)), of.request.madeId(step));
        } else {
            writeBlank();
            text.append(word.text);
        }
    }

    /** The EMAILS of the line from a place on. */
    private String part(int from, int many) {
        text.setLength(0);
        int start = Math.max(from, 0);
        for (int k = 0; k < many && k < line.size - start; k++) {
            writeId('e', line.idAt(start + k));
        }
        return text.toString();
    }

    private void writeLost() {
        for (int place = 0; place < oldLine.size; place++) {
            if (!line.has(oldLine.idAt(place))) {
                writeBlank();
                text.append("-e");
                text.append(oldLine.idAt(place));
            }
        }
    }

    private void writeGained() {
        for (int place = 0; place < line.size; place++) {
            if (!oldLine.has(line.idAt(place))) {
                writeBlank();
                text.append(place);
                text.append(":e");
                text.append(line.idAt(place));
            }
        }
    }

    private void writeSet(Ids ids, String sign, char letter) {
        for (int word = 0; word < WORDS; word++) {
            for (int bit = 0; bit < 64 && !ids.isBare(word); bit++) {
                if (ids.has(word * 64 + bit)) {
                    writeBlank();
                    text.append(sign);
                    text.append(letter);
                    text.append(word * 64 + bit);
                }
            }
        }
    }

    private void writeChanges(Account of, int type, int since, int most) {
        History history = of.historyOf(type);
        text.setLength(0);
        int end = history.walk(since, most);
        if (end == NONE) {
            text.append("cannot");
            return;
        }
        text.append(end);
        writeSet(history.came, "+", letterOf(type));
        writeSet(history.changed, "~", letterOf(type));
        writeSet(history.went, "-", letterOf(type));
    }

    private void writeMailboxes(Table mailboxes) {
        line.empty();
        for (int row = 0; row < mailboxes.size; row++) {
            line.put(mailboxes.idAt(row), mailboxes.cell(row, ORDER) * 100 + mailboxes.cell(row, NAME), 0);
        }
        text.setLength(0);
        for (int place = 0; place < line.size; place++) {
            writeId('m', line.idAt(place));
        }
    }

    private void writeWhere(Table emails, int email) {
        text.setLength(0);
        int row = emails.rowOf(email);
        for (int k = 0; k < emails.cell(row, BOXES); k++) {
            writeId('m', emails.cell(row, BOX + k));
        }
    }

    private void writeThreads(Account of) {
        text.setLength(0);
        of.live.collectThreads();
        writeSet(of.live.threads, "", 't');
    }

    private void writeBlobs(Table blobs) {
        text.setLength(0);
        for (int row = 0; row < blobs.size; row++) {
            writeId('b', blobs.idAt(row));
        }
    }

    private void writeSubmissions(Table submissions) {
        text.setLength(0);
        for (int row = 0; row < submissions.size; row++) {
            writeId('s', submissions.idAt(row));
            text.append(':');
            text.append(submissions.cell(row, HOW));
        }
    }

    // ---- the whole

    private long withNumbers(long sum, int account) {
        long d = sum;
        for (int what = 0; what <= 10; what++) {
            d = d * 31 + ofAccount(account, what);
        }
        for (int type = 0; type < TYPES; type++) {
            d = d * 31 + state(account, type);
        }
        return d;
    }

    private long withMailboxes(long sum, int account) {
        long d = sum;
        Table mailboxes = accountOf(account).live.mailboxes;
        for (int row = 0; row < mailboxes.size; row++) {
            int mailbox = mailboxes.idAt(row);
            d = d * 31 + mailbox;
            for (int what = 0; what <= 9; what++) {
                d = d * 31 + ofMailbox(account, mailbox, what);
            }
        }
        return d;
    }

    private long withEmails(long sum, int account) {
        long d = sum;
        Table emails = accountOf(account).live.emails;
        for (int row = 0; row < emails.size; row++) {
            int email = emails.idAt(row);
            d = d * 31 + email;
            for (int what = 0; what <= 10; what++) {
                d = d * 31 + ofEmail(account, email, what);
            }
            writeWhere(emails, email);
            d = d * 31 + text.length();
        }
        return d;
    }

    private long withLengths(long sum, int account) {
        Account of = accountOf(account);
        writeMailboxes(of.live.mailboxes);
        long d = sum * 31 + text.length();
        writeThreads(of);
        d = d * 31 + text.length();
        writeBlobs(of.live.blobs);
        d = d * 31 + text.length();
        writeSubmissions(of.live.submissions);
        d = d * 31 + text.length();
        return d * 31 + of.lastAnswer.length();
    }

    private long withChanges(long sum, int account) {
        long d = sum;
        for (int query = 0; query < QUERIES; query++) {
            d = d * 31 + total(query, account);
        }
        for (int type = 0; type < TYPES; type++) {
            writeChanges(accountOf(account), type, 0, MOST_TOLD);
            d = d * 31 + text.length();
        }
        return d;
    }

    private boolean areQueriesRight(Account of) {
        History history = of.historyOf(EMAIL);
        for (int query = 0; query < QUERIES; query++) {
            Query asked = queryOf(query);
            asked.fill(line, of.live.emails);
            for (int since = history.firstKnown(); since <= history.state; since++) {
                asked.fill(oldLine, of.emailsAt(since));
                if (!isLedToLine()) {
                    return false;
                }
            }
        }
        return true;
    }

    /** Whether QUERYCHANGES, done to the old line, give the line. */
    private boolean isLedToLine() {
        ledLine.empty();
        for (int place = 0; place < oldLine.size; place++) {
            if (line.has(oldLine.idAt(place))) {
                ledLine.insert(ledLine.size, oldLine.idAt(place));
            }
        }
        for (int place = 0; place < line.size; place++) {
            if (!oldLine.has(line.idAt(place))) {
                ledLine.insert(place, line.idAt(place));
            }
        }
        boolean isLed = ledLine.size == line.size;
        for (int place = 0; place < line.size; place++) {
            isLed = isLed && ledLine.idAt(place) == line.idAt(place);
        }
        return isLed;
    }

    // ---- EMAILS in a table, that of now or one of then

    private static boolean isUnread(Table emails, int row) {
        return (emails.cell(row, KEYWORDS) & SEEN_OR_DRAFT) == 0;
    }

    private static boolean isIn(Table emails, int row, int mailbox) {
        for (int k = 0; k < emails.cell(row, BOXES); k++) {
            if (emails.cell(row, BOX + k) == mailbox) {
                return true;
            }
        }
        return false;
    }

    /** How a STEP ended. */
    private enum Word {
        MADE(""), OK("ok"), NO_REFERENCE("noref"), NOT_FOUND("notfound"), MANY("many"), TAKEN("taken"), RING("ring"),
        DEEP("deep"), CHILD("child"), HAS_EMAIL("email"), OVER_QUOTA("quota"), LAST("last"), TOO_LATE("sent");

        private final String text;

        Word(String text) {
            this.text = text;
        }
    }

    /** A set of IDS. */
    private static final class Ids {
        private final long[] words = new long[WORDS];

        void empty() {
            for (int k = 0; k < WORDS; k++) {
                words[k] = 0;
            }
        }

        void put(int id) {
            if (id >= 0 && id <= LAST_ID) {
                words[id >> 6] |= 1L << (id & 63);
            }
        }

        boolean has(int id) {
            return id >= 0 && id <= LAST_ID && (words[id >> 6] >> (id & 63) & 1L) != 0;
        }

        int count() {
            int count = 0;
            for (int k = 0; k < WORDS; k++) {
                count += Long.bitCount(words[k]);
            }
            return count;
        }

        void copy(long[] others) {
            for (int k = 0; k < WORDS && k < others.length; k++) {
                words[k] = others[k];
            }
        }

        void copyTo(long[] others) {
            for (int k = 0; k < WORDS && k < others.length; k++) {
                others[k] = words[k];
            }
        }

        void add(long[] others) {
            for (int k = 0; k < WORDS && k < others.length; k++) {
                words[k] |= others[k];
            }
        }

        void drop(long[] others) {
            for (int k = 0; k < WORDS && k < others.length; k++) {
                words[k] &= ~others[k];
            }
        }

        void keep(long[] others) {
            for (int k = 0; k < WORDS && k < others.length; k++) {
                words[k] &= others[k];
            }
        }

        boolean isSame(long[] others) {
            for (int k = 0; k < WORDS && k < others.length; k++) {
                if (words[k] != others[k]) {
                    return false;
                }
            }
            return true;
        }

        /** Whether there is none of 64 IDS from that on, so that they need not be looked at one by one. */
        boolean isBare(int word) {
            return word < 0 || word >= WORDS || words[word] == 0;
        }
    }

    /** Things of one kind, by IDS, each a row of cells. */
    private static final class Table {
        private final int most;
        private final int wide;
        private final int[] ids;
        private final int[] cells;
        private int size;
        private int next = 1;

        Table(int most, int wide) {
            this.most = Math.max(most, 0);
            this.wide = Math.max(wide, 0);
            ids = new int[this.most];
            cells = new int[this.most * this.wide];
        }

        boolean isFull() {
            return size >= most || next > LAST_ID;
        }

        /** A new thing with the next ID, all cells 0; its row. */
        int add() {
            if (isFull()) {
                return NONE;
            }
            int row = size;
            ids[row] = next;
            for (int column = 0; column < wide; column++) {
                cells[row * wide + column] = 0;
            }
            size++;
            next++;
            return row;
        }

        void remove(int row) {
            if (row < 0 || row >= size) {
                return;
            }
            int behind = size - row - 1;
            System.arraycopy(ids, row + 1, ids, row, behind);
            System.arraycopy(cells, (row + 1) * wide, cells, row * wide, behind * wide);
            size--;
        }

        int idAt(int row) {
            return row >= 0 && row < size ? ids[row] : NONE;
        }

        /** The ID that add() gave last. */
        int lastGiven() {
            return next - 1;
        }

        int rowOf(int id) {
            // IDS rise from 1 on, so none stands in a row behind its own number
            int behind = id < 0 ? 0 : id < size ? id : size;
            for (int row = behind - 1; row >= 0 && row < most; row--) {
                if (ids[row] <= id) {
                    return ids[row] == id ? row : NONE;
                }
            }
            return NONE;
        }

        boolean has(int id) {
            return rowOf(id) != NONE;
        }

        int cell(int row, int column) {
            return row >= 0 && row < size && column >= 0 && column < wide ? cells[row * wide + column] : NONE;
        }

        int of(int id, int column) {
            return cell(rowOf(id), column);
        }

        void put(int row, int column, int value) {
            if (row >= 0 && row < size && column >= 0 && column < wide) {
                cells[row * wide + column] = value;
            }
        }

        /** All of another one of the same measures. */
        void copy(Table other) {
            if (other.most == most && other.wide == wide) {
                System.arraycopy(other.ids, 0, ids, 0, other.size);
                System.arraycopy(other.cells, 0, cells, 0, other.size * wide);
                size = other.size;
                next = other.next;
            }
        }

        private boolean isRowSame(int row, Table other, int otherRow) {
            for (int column = 0; column < wide; column++) {
                if (cell(row, column) != other.cell(otherRow, column)) {
                    return false;
                }
            }
            return true;
        }

        boolean isSame(Table other) {
            if (other.size != size || other.next != next) {
                return false;
            }
            for (int row = 0; row < size; row++) {
                if (idAt(row) != other.idAt(row) || !isRowSame(row, other, row)) {
                    return false;
                }
            }
            return true;
        }

        void collect(Ids into) {
            into.empty();
            for (int row = 0; row < size; row++) {
                into.put(idAt(row));
            }
        }

        /** Those that were there before, too, and are other now. */
        void collectChanged(Table before, Ids into) {
            for (int row = 0; row < size; row++) {
                int old = before.rowOf(idAt(row));
                if (old != NONE && !isRowSame(row, before, old)) {
                    into.put(idAt(row));
                }
            }
        }
    }

    /** STATES of a TYPE, with what was there at each that is known, and what led to it. */
    private static final class History {
        private final long[][] thereAt = new long[KNOWN_STATES][WORDS];
        private final long[][] cameAt = new long[KNOWN_STATES][WORDS];
        private final long[][] changedAt = new long[KNOWN_STATES][WORDS];
        private final long[][] wentAt = new long[KNOWN_STATES][WORDS];
        private int state;
        /** What the last walk() found to tell. */
        private final Ids came = new Ids();
        private final Ids changed = new Ids();
        private final Ids went = new Ids();
        private final Ids told = new Ids();
        /** What was there at the STATE that was last told to standAt(). */
        private final Ids stood = new Ids();

        private static int slotOf(int state) {
            return Math.floorMod(state, KNOWN_STATES);
        }

        int firstKnown() {
            return Math.max(0, state - KNOWN_STATES + 1);
        }

        boolean isKnown(int since) {
            return since >= 0 && since <= state && since > state - KNOWN_STATES;
        }

        void standAt(int since) {
            stood.copy(thereAt[slotOf(since)]);
        }

        /** Goes on to the next STATE, if something is other than at that of now; whether it is. */
        boolean advance(Ids now, Ids touched) {
            stood.copy(thereAt[slotOf(state)]);
            came.copy(now.words);
            came.drop(stood.words);
            went.copy(stood.words);
            went.drop(now.words);
            changed.copy(touched.words);
            changed.keep(stood.words);
            changed.keep(now.words);
            if (came.count() + went.count() + changed.count() == 0) {
                return false;
            }
            state++;
            int slot = slotOf(state);
            now.copyTo(thereAt[slot]);
            came.copyTo(cameAt[slot]);
            changed.copyTo(changedAt[slot]);
            went.copyTo(wentAt[slot]);
            return true;
        }

        /** Sums up what CHANGES since a STATE tell; the STATE to which they lead, or NONE if they can not be. */
        int walk(int since, int most) {
            if (!isKnown(since)) {
                return NONE;
            }
            came.empty();
            changed.empty();
            went.empty();
            told.empty();
            int end = since;
            for (int next = since + 1; next <= state && isTold(slotOf(next), most); next++) {
                end = next;
            }
            // what came and went is not told, nor is it CHANGED then
            changed.drop(came.words);
            changed.drop(went.words);
            stood.copy(came.words);
            came.drop(went.words);
            went.drop(stood.words);
            return end == since && since < state ? NONE : end;
        }

        /** Adds what led to a STATE, unless more IDS than that would be told. */
        private boolean isTold(int slot, int most) {
            told.add(cameAt[slot]);
            told.add(changedAt[slot]);
            told.add(wentAt[slot]);
            if (told.count() > most) {
                return false;
            }
            came.add(cameAt[slot]);
            changed.add(changedAt[slot]);
            went.add(wentAt[slot]);
            return true;
        }

        /** Whether CHANGES lead from each STATE to what there was at another one, and to what there is now. */
        boolean isRight(Ids now) {
            for (int since = firstKnown(); since <= state; since++) {
                int end = walk(since, MOST_TOLD);
                if (end == NONE) {
                    return false;
                }
                stood.copy(thereAt[slotOf(since)]);
                stood.drop(went.words);
                stood.add(came.words);
                if (!stood.isSame(thereAt[slotOf(end)])) {
                    return false;
                }
            }
            return now.isSame(thereAt[slotOf(state)]);
        }
    }

    /** A few things in a sequence. */
    private static final class Line {
        private final int[] ids = new int[MOST_EMAILS];
        private final int[] keys = new int[MOST_EMAILS];
        private final int[] groups = new int[MOST_EMAILS];
        private final Ids held = new Ids();
        private int size;

        void empty() {
            size = 0;
            held.empty();
        }

        boolean has(int id) {
            return held.has(id);
        }

        int idAt(int place) {
            return place >= 0 && place < size && place < MOST_EMAILS ? ids[place] : NONE;
        }

        int placeOf(int id) {
            for (int place = 0; place < size && place < MOST_EMAILS; place++) {
                if (ids[place] == id) {
                    return place;
                }
            }
            return NONE;
        }

        /** One more, by its key, behind those that have the same. */
        void put(int id, int key, int group) {
            if (size < 0 || size >= MOST_EMAILS) {
                return;
            }
            int place = size;
            while (place > 0 && keys[place - 1] > key) {
                ids[place] = ids[place - 1];
                keys[place] = keys[place - 1];
                groups[place] = groups[place - 1];
                place--;
            }
            ids[place] = id;
            keys[place] = key;
            groups[place] = group;
            held.put(id);
            size++;
        }

        /** One more at a place; keys are not kept then. */
        void insert(int place, int id) {
            if (place < 0 || place > size || size >= MOST_EMAILS) {
                return;
            }
            for (int k = size; k > place; k--) {
                ids[k] = ids[k - 1];
            }
            ids[place] = id;
            held.put(id);
            size++;
        }

        /** Keeps the first one of each group alone. */
        void collapse() {
            int kept = 0;
            held.empty();
            for (int place = 0; place < size && place < MOST_EMAILS; place++) {
                boolean isFirst = true;
                for (int k = 0; k < kept; k++) {
                    isFirst = isFirst && groups[k] != groups[place];
                }
                if (isFirst) {
                    ids[kept] = ids[place];
                    keys[kept] = keys[place];
                    groups[kept] = groups[place];
                    held.put(ids[kept]);
                    kept++;
                }
            }
            size = kept;
        }
    }

    /** A FILTER and a SEQUENCE. */
    private static final class Query {
        private static final int BY_SIZE = 1;
        private static final int BY_FROM = 2;
        private static final int BY_SUBJECT = 3;

        private int mailbox = NONE;
        private int keyword = NONE;
        private int without = NONE;
        private int from = NONE;
        private int subject = NONE;
        private int by;
        private boolean isFalling;
        private boolean isCollapsed;

        int conditions() {
            return (mailbox == NONE ? 0 : 1) + (keyword == NONE ? 0 : 1) + (without == NONE ? 0 : 1)
                    + (from == NONE ? 0 : 1) + (subject == NONE ? 0 : 1);
        }

        private boolean isLet(Table emails, int row) {
            int keywords = emails.cell(row, KEYWORDS);
            return (keyword == NONE || (keywords >> keyword & 1) == 1)
                    && (without == NONE || (keywords >> without & 1) == 0)
                    && (from == NONE || emails.cell(row, OF_BLOB + FROM) == from)
                    && (subject == NONE || emails.cell(row, OF_BLOB + SUBJECT) == subject)
                    && (mailbox == NONE || isIn(emails, row, mailbox));
        }

        private int column() {
            switch (by) {
                case BY_SIZE: return OF_BLOB + SIZE;
                case BY_FROM: return OF_BLOB + FROM;
                case BY_SUBJECT: return OF_BLOB + SUBJECT;
                default: return RECEIVED;
            }
        }

        /** The RESULT in these EMAILS. */
        void fill(Line result, Table emails) {
            int column = column();
            result.empty();
            for (int row = 0; row < emails.size; row++) {
                if (isLet(emails, row)) {
                    int key = emails.cell(row, column);
                    result.put(emails.idAt(row), isFalling ? -key : key, emails.cell(row, ITS_THREAD));
                }
            }
            if (isCollapsed) {
                result.collapse();
            }
        }
    }

    /** STEPS that are typed, and what they made as they are run. */
    private static final class Request {
        private static final int NEW_MAILBOX = 0;
        private static final int CHANGE_MAILBOX = 1;
        private static final int DROP_MAILBOX = 2;
        private static final int NEW_EMAIL = 3;
        private static final int CHANGE_EMAIL = 4;
        private static final int DROP_EMAIL = 5;
        private static final int SUBMIT = 6;
        private static final int UNDO = 7;

        private static final int KIND = 0;
        /** The part that names what a STEP changes, or NONE. */
        private static final int THING = 1;
        /** The part that names a MAILBOX to which something comes, or out of which it goes, or NONE. */
        private static final int PLACE = 2;
        private static final int ONE = 3;
        private static final int TWO = 4;
        private static final int THREE = 5;
        private static final int PARTS = 6;

        private final int[] parts = new int[MOST_STEPS * PARTS];
        private final int[] madeTypes = new int[MOST_STEPS];
        private final int[] madeIds = new int[MOST_STEPS];
        private int size;
        private int boundType = NONE;
        private int boundState = NONE;

        void empty() {
            size = 0;
            boundType = NONE;
            boundState = NONE;
        }

        int add(int kind, int thing, int place, int one, int two, int three) {
            if (size < 0 || size >= MOST_STEPS) {
                return NONE;
            }
            int step = size;
            parts[step * PARTS + KIND] = kind;
            parts[step * PARTS + THING] = thing;
            parts[step * PARTS + PLACE] = place;
            parts[step * PARTS + ONE] = one;
            parts[step * PARTS + TWO] = two;
            parts[step * PARTS + THREE] = three;
            madeTypes[step] = NONE;
            madeIds[step] = NOREF;
            size++;
            return step;
        }

        int part(int step, int number) {
            return isWithin(step, 0, MOST_STEPS - 1) && isWithin(number, 0, PARTS - 1)
                    ? parts[step * PARTS + number] : NONE;
        }

        void noteMade(int step, int type, int id) {
            if (isWithin(step, 0, MOST_STEPS - 1)) {
                madeTypes[step] = type;
                madeIds[step] = id;
            }
        }

        int madeType(int step) {
            return isWithin(step, 0, MOST_STEPS - 1) ? madeTypes[step] : NONE;
        }

        int madeId(int step) {
            return isWithin(step, 0, MOST_STEPS - 1) ? madeIds[step] : NOREF;
        }

        /** The ID that a part of a STEP names; NOREF if the STEP that it tells made nothing of that TYPE. */
        int named(int step, int number, int type) {
            int name = part(step, number);
            if (name >= NONE) {
                return name;
            }
            int maker = stepNamed(name);
            return maker < step && madeType(maker) == type ? madeId(maker) : NOREF;
        }
    }

    /** What an ACCOUNT has. */
    private static final class Holdings {
        private final Table mailboxes = new Table(MOST_MAILBOXES, MAILBOX_CELLS);
        private final Table emails = new Table(MOST_EMAILS, EMAIL_CELLS);
        private final Table blobs = new Table(LAST_ID, BLOB_CELLS);
        private final Table submissions = new Table(LAST_ID, SUBMISSION_CELLS);
        private int quota = 400;
        private int nextThread = 1;
        /** What collectThreads() found. */
        private final Ids threads = new Ids();
        private final Ids found = new Ids();

        void copy(Holdings other) {
            mailboxes.copy(other.mailboxes);
            emails.copy(other.emails);
            blobs.copy(other.blobs);
            submissions.copy(other.submissions);
            quota = other.quota;
            nextThread = other.nextThread;
        }

        boolean isSame(Holdings other) {
            return mailboxes.isSame(other.mailboxes) && emails.isSame(other.emails) && blobs.isSame(other.blobs)
                    && submissions.isSame(other.submissions) && quota == other.quota && nextThread == other.nextThread;
        }

        // -- BLOBS

        /** Its ID, or NONE if there is no more room. */
        int addBlob(int size, int from, int subject, int message, int reply) {
            int row = blobs.add();
            blobs.put(row, SIZE, size);
            blobs.put(row, FROM, from);
            blobs.put(row, SUBJECT, subject);
            blobs.put(row, MESSAGE, message);
            blobs.put(row, REPLY, reply);
            return blobs.idAt(row);
        }

        int dropUnusedBlobs() {
            found.empty();
            for (int row = 0; row < emails.size; row++) {
                found.put(emails.cell(row, ITS_BLOB));
            }
            int dropped = 0;
            for (int row = blobs.size - 1; row >= 0; row--) {
                if (!found.has(blobs.idAt(row))) {
                    blobs.remove(row);
                    dropped++;
                }
            }
            return dropped;
        }

        // -- MAILBOXES

        /** The MAILBOX so many steps up. */
        int above(int mailbox, int up) {
            int at = mailbox;
            for (int k = 0; k < up && at != NONE; k++) {
                at = mailboxes.of(at, PARENT);
            }
            return at;
        }

        /** 0 for NONE; in a ring more than there are MAILBOXES. */
        int depthOf(int mailbox) {
            int depth = 0;
            for (int at = mailbox; at != NONE && depth <= MOST_MAILBOXES; depth++) {
                at = mailboxes.of(at, PARENT);
            }
            return depth;
        }

        /** Whether it is that one, or under it. */
        boolean isUnder(int mailbox, int top) {
            int at = mailbox;
            for (int k = 0; k <= MOST_MAILBOXES && at != NONE; k++) {
                if (at == top) {
                    return true;
                }
                at = mailboxes.of(at, PARENT);
            }
            return false;
        }

        /** How many DEPTHS there are from it down to the lowest one under it. */
        private int heightOf(int mailbox) {
            int height = 1;
            for (int row = 0; row < mailboxes.size; row++) {
                int parent = mailboxes.cell(row, PARENT);
                if (parent == mailbox) {
                    height = Math.max(height, 2);
                } else if (parent != NONE && mailboxes.of(parent, PARENT) == mailbox) {
                    height = MOST_DEPTH;
                }
            }
            return height;
        }

        int childrenOf(int mailbox) {
            int children = 0;
            for (int row = 0; row < mailboxes.size; row++) {
                children += mailboxes.cell(row, PARENT) == mailbox ? 1 : 0;
            }
            return children;
        }

        /** The MAILBOX that has a ROLE, the smallest one; NONE without. */
        int holderOf(int role) {
            for (int row = 0; row < mailboxes.size; row++) {
                if (mailboxes.cell(row, ROLE) == role) {
                    return mailboxes.idAt(row);
                }
            }
            return NONE;
        }

        private boolean isNameTaken(int name, int parent, int except) {
            for (int row = 0; row < mailboxes.size; row++) {
                if (mailboxes.cell(row, NAME) == name && mailboxes.cell(row, PARENT) == parent
                        && mailboxes.idAt(row) != except) {
                    return true;
                }
            }
            return false;
        }

        private boolean isRoleTaken(int role, int except) {
            int holder = role == 0 ? NONE : holderOf(role);
            return holder != NONE && holder != except;
        }

        Word addMailbox(int name, int parent, int role, int order) {
            if (parent != NONE && !mailboxes.has(parent)) {
                return Word.NOT_FOUND;
            }
            if (mailboxes.isFull()) {
                return Word.MANY;
            }
            if (isNameTaken(name, parent, NONE) || isRoleTaken(role, NONE)) {
                return Word.TAKEN;
            }
            if (depthOf(parent) >= MOST_DEPTH) {
                return Word.DEEP;
            }
            int row = mailboxes.add();
            mailboxes.put(row, NAME, name);
            mailboxes.put(row, PARENT, parent);
            mailboxes.put(row, ROLE, role);
            mailboxes.put(row, ORDER, order);
            return Word.MADE;
        }

        Word alterMailbox(int mailbox, int what, int value) {
            int row = mailboxes.rowOf(mailbox);
            if (row == NONE || what == PARENT && value != NONE && !mailboxes.has(value)) {
                return Word.NOT_FOUND;
            }
            Word word = Word.OK;
            if (what == NAME && isNameTaken(value, mailboxes.cell(row, PARENT), mailbox)
                    || what == ROLE && isRoleTaken(value, mailbox)) {
                word = Word.TAKEN;
            } else if (what == PARENT) {
                word = parentWord(mailbox, value);
            }
            if (word == Word.OK) {
                mailboxes.put(row, what, value);
            }
            return word;
        }

        private Word parentWord(int mailbox, int parent) {
            if (isUnder(parent, mailbox)) {
                return Word.RING;
            }
            if (isNameTaken(mailboxes.of(mailbox, NAME), parent, mailbox)) {
                return Word.TAKEN;
            }
            return depthOf(parent) + heightOf(mailbox) > MOST_DEPTH ? Word.DEEP : Word.OK;
        }

        Word removeMailbox(int mailbox, boolean isWith) {
            int row = mailboxes.rowOf(mailbox);
            if (row == NONE) {
                return Word.NOT_FOUND;
            }
            if (childrenOf(mailbox) > 0) {
                return Word.CHILD;
            }
            if (!isWith && emailsIn(mailbox) > 0) {
                return Word.HAS_EMAIL;
            }
            for (int email = emails.size - 1; email >= 0; email--) {
                if (isIn(emails, email, mailbox)) {
                    takeOut(email, mailbox);
                    if (emails.cell(email, BOXES) == 0) {
                        emails.remove(email);
                    }
                }
            }
            mailboxes.remove(row);
            return Word.OK;
        }

        // -- EMAILS

        int used() {
            int used = 0;
            for (int row = 0; row < emails.size; row++) {
                used += emails.cell(row, OF_BLOB + SIZE);
            }
            return used;
        }

        boolean isRoomFor(int size) {
            return !emails.isFull() && used() + size <= quota;
        }

        Word addEmail(int blob, int mailbox, int keywords, int received) {
            int source = blobs.rowOf(blob);
            if (source == NONE || !mailboxes.has(mailbox)) {
                return Word.NOT_FOUND;
            }
            if (!isRoomFor(blobs.cell(source, SIZE))) {
                return emails.isFull() ? Word.MANY : Word.OVER_QUOTA;
            }
            // ahead of its own row, since it is no kin of itself
            int thread = threadFor(source);
            int row = emails.add();
            emails.put(row, ITS_BLOB, blob);
            emails.put(row, RECEIVED, received);
            emails.put(row, KEYWORDS, keywords);
            emails.put(row, ITS_THREAD, thread);
            for (int k = 0; k < BLOB_CELLS; k++) {
                emails.put(row, OF_BLOB + k, blobs.cell(source, k));
            }
            putIn(row, mailbox);
            return Word.MADE;
        }

        private int threadFor(int blob) {
            int thread = NONE;
            for (int row = 0; row < emails.size; row++) {
                int its = emails.cell(row, ITS_THREAD);
                if (isKin(row, blob) && (thread == NONE || its < thread)) {
                    thread = its;
                }
            }
            if (thread == NONE) {
                thread = nextThread;
                nextThread++;
            }
            return thread;
        }

        private boolean isKin(int row, int blob) {
            int message = emails.cell(row, OF_BLOB + MESSAGE);
            int reply = emails.cell(row, OF_BLOB + REPLY);
            int newMessage = blobs.cell(blob, MESSAGE);
            int newReply = blobs.cell(blob, REPLY);
            return emails.cell(row, OF_BLOB + SUBJECT) == blobs.cell(blob, SUBJECT)
                    && (message == newMessage || message == newReply || reply == newMessage
                    || reply == newReply && reply != 0);
        }

        /** MAILBOXES of an EMAIL stand by IDS, 0 behind them, so that like sets have like cells. */
        private void putIn(int row, int mailbox) {
            int boxes = emails.cell(row, BOXES);
            if (isIn(emails, row, mailbox) || boxes >= MOST_MAILBOXES) {
                return;
            }
            int place = boxes;
            while (place > 0 && emails.cell(row, BOX + place - 1) > mailbox) {
                emails.put(row, BOX + place, emails.cell(row, BOX + place - 1));
                place--;
            }
            emails.put(row, BOX + place, mailbox);
            emails.put(row, BOXES, boxes + 1);
        }

        private void takeOut(int row, int mailbox) {
            if (!isIn(emails, row, mailbox)) {
                return;
            }
            int kept = 0;
            for (int k = 0; k < MOST_MAILBOXES; k++) {
                int box = emails.cell(row, BOX + k);
                if (box != mailbox) {
                    emails.put(row, BOX + kept, box);
                    kept++;
                }
            }
            emails.put(row, BOX + MOST_MAILBOXES - 1, 0);
            emails.put(row, BOXES, emails.cell(row, BOXES) - 1);
        }

        Word alterKeyword(int email, int keyword, boolean isGot) {
            int row = emails.rowOf(email);
            if (row == NONE) {
                return Word.NOT_FOUND;
            }
            int others = emails.cell(row, KEYWORDS) & ~(1 << keyword);
            emails.put(row, KEYWORDS, isGot ? others | 1 << keyword : others);
            return Word.OK;
        }

        Word alterPlace(int email, int mailbox, boolean isInto) {
            int row = emails.rowOf(email);
            if (row == NONE || !mailboxes.has(mailbox)) {
                return Word.NOT_FOUND;
            }
            if (isInto) {
                putIn(row, mailbox);
                return Word.OK;
            }
            if (isIn(emails, row, mailbox) && emails.cell(row, BOXES) == 1) {
                return Word.LAST;
            }
            takeOut(row, mailbox);
            return Word.OK;
        }

        Word removeEmail(int email) {
            int row = emails.rowOf(email);
            emails.remove(row);
            return row == NONE ? Word.NOT_FOUND : Word.OK;
        }

        /** What sending does to the EMAIL that is sent. */
        void fileAway(int row) {
            emails.put(row, KEYWORDS, emails.cell(row, KEYWORDS) & ~(1 << DRAFT));
            int sent = holderOf(SENT_MAIL);
            if (sent != NONE) {
                putIn(row, sent);
                takeOut(row, holderOf(DRAFTS));
            }
        }

        // -- SUBMISSIONS

        Word addSubmission(int email, int to, int time) {
            if (!emails.has(email)) {
                return Word.NOT_FOUND;
            }
            if (submissions.isFull()) {
                return Word.MANY;
            }
            int row = submissions.add();
            submissions.put(row, ITS_EMAIL, email);
            submissions.put(row, TO, to);
            submissions.put(row, TIME, time);
            submissions.put(row, HOW, PENDING);
            return Word.MADE;
        }

        Word undoSubmission(int submission) {
            int row = submissions.rowOf(submission);
            if (row == NONE) {
                return Word.NOT_FOUND;
            }
            if (submissions.cell(row, HOW) != PENDING) {
                return Word.TOO_LATE;
            }
            submissions.put(row, HOW, UNDONE);
            return Word.OK;
        }

        int timeOf(int row) {
            return submissions.cell(row, TIME);
        }

        /** The row of the SUBMISSION that is to be sent first, or NONE. */
        int earliestDue(int clock) {
            int best = NONE;
            for (int row = 0; row < submissions.size; row++) {
                if (submissions.cell(row, HOW) == PENDING && timeOf(row) <= clock
                        && (best == NONE || timeOf(row) < timeOf(best))) {
                    best = row;
                }
            }
            return best;
        }

        int submissionsThatAre(int how) {
            int count = 0;
            for (int row = 0; row < submissions.size; row++) {
                count += submissions.cell(row, HOW) == how ? 1 : 0;
            }
            return count;
        }

        // -- COUNTS, THREADS

        /** All COUNTS anew, as they are kept with the MAILBOXES. */
        void recount() {
            for (int row = 0; row < mailboxes.size; row++) {
                int mailbox = mailboxes.idAt(row);
                mailboxes.put(row, COUNTS, emailsIn(mailbox));
                mailboxes.put(row, COUNTS + 1, unreadIn(mailbox));
                mailboxes.put(row, COUNTS + 2, threadsIn(mailbox));
                mailboxes.put(row, COUNTS + 3, unreadThreadsIn(mailbox));
            }
        }

        private int emailsIn(int mailbox) {
            int count = 0;
            for (int row = 0; row < emails.size; row++) {
                count += isIn(emails, row, mailbox) ? 1 : 0;
            }
            return count;
        }

        private int unreadIn(int mailbox) {
            int count = 0;
            for (int row = 0; row < emails.size; row++) {
                count += isUnread(emails, row) && isIn(emails, row, mailbox) ? 1 : 0;
            }
            return count;
        }

        private int threadsIn(int mailbox) {
            found.empty();
            for (int row = 0; row < emails.size; row++) {
                if (isIn(emails, row, mailbox)) {
                    found.put(emails.cell(row, ITS_THREAD));
                }
            }
            return found.count();
        }

        private int unreadThreadsIn(int mailbox) {
            found.empty();
            threads.empty();
            for (int row = 0; row < emails.size; row++) {
                if (isIn(emails, row, mailbox)) {
                    found.put(emails.cell(row, ITS_THREAD));
                }
                if (isUnread(emails, row)) {
                    threads.put(emails.cell(row, ITS_THREAD));
                }
            }
            found.keep(threads.words);
            return found.count();
        }

        void collectThreads() {
            threads.empty();
            for (int row = 0; row < emails.size; row++) {
                threads.put(emails.cell(row, ITS_THREAD));
            }
        }

        int threadCount() {
            collectThreads();
            return threads.count();
        }

        // -- whether all is right

        boolean areCountsRight() {
            for (int row = 0; row < mailboxes.size; row++) {
                int mailbox = mailboxes.idAt(row);
                if (mailboxes.cell(row, COUNTS) != emailsIn(mailbox)
                        || mailboxes.cell(row, COUNTS + 1) != unreadIn(mailbox)
                        || mailboxes.cell(row, COUNTS + 2) != threadsIn(mailbox)
                        || mailboxes.cell(row, COUNTS + 3) != unreadThreadsIn(mailbox)) {
                    return false;
                }
            }
            return true;
        }

        boolean areMailboxesRight() {
            for (int row = 0; row < mailboxes.size; row++) {
                int mailbox = mailboxes.idAt(row);
                int parent = mailboxes.cell(row, PARENT);
                if (parent != NONE && !mailboxes.has(parent) || depthOf(mailbox) > MOST_DEPTH
                        || isNameTaken(mailboxes.cell(row, NAME), parent, mailbox)
                        || isRoleTaken(mailboxes.cell(row, ROLE), mailbox)) {
                    return false;
                }
            }
            return true;
        }

        boolean areEmailsRight() {
            collectThreads();
            for (int row = 0; row < emails.size; row++) {
                int boxes = emails.cell(row, BOXES);
                boolean isRight = boxes >= 1 && blobs.has(emails.cell(row, ITS_BLOB))
                        && threads.has(emails.cell(row, ITS_THREAD));
                for (int k = 0; k < boxes; k++) {
                    isRight = isRight && mailboxes.has(emails.cell(row, BOX + k));
                }
                if (!isRight) {
                    return false;
                }
            }
            return true;
        }
    }

    /** An ACCOUNT: what it has, and what the LOG has of that; its REQUEST; its STATES. */
    private static final class Account {
        private final Holdings live = new Holdings();
        private final Holdings logged = new Holdings();
        private final Request request = new Request();
        private final History mailboxStates = new History();
        private final History emailStates = new History();
        private final History threadStates = new History();
        private final History submissionStates = new History();
        private final Table[] emailsThen = new Table[KNOWN_STATES];
        private final Ids now = new Ids();
        private final Ids touched = new Ids();
        private String lastAnswer = "";

        Account() {
            for (int slot = 0; slot < KNOWN_STATES; slot++) {
                emailsThen[slot] = new Table(MOST_EMAILS, EMAIL_CELLS);
            }
        }

        History historyOf(int type) {
            switch (type) {
                case MAILBOX: return mailboxStates;
                case EMAIL: return emailStates;
                case THREAD: return threadStates;
                default: return submissionStates;
            }
        }

        /** The EMAILS as they were at a STATE that is known. */
        Table emailsAt(int since) {
            Table found = emailsThen[History.slotOf(since)];
            return found == null ? live.emails : found;
        }

        // -- the LOG

        /** What there is is in the LOG from now on; STATES go on where it is other than it was there. */
        void keep() {
            for (int type = 0; type < TYPES; type++) {
                collectNow(type);
                collectTouched(type);
                boolean isAdvanced = historyOf(type).advance(now, touched);
                if (isAdvanced && type == EMAIL) {
                    emailsAt(emailStates.state).copy(live.emails);
                }
            }
            logged.copy(live);
        }

        private void collectNow(int type) {
            switch (type) {
                case MAILBOX:
                    live.mailboxes.collect(now);
                    break;
                case EMAIL:
                    live.emails.collect(now);
                    break;
                case THREAD:
                    live.collectThreads();
                    now.copy(live.threads.words);
                    break;
                default:
                    live.submissions.collect(now);
                    break;
            }
        }

        /** Of a TYPE what is other than the LOG has it; what came or went may be with it. */
        private void collectTouched(int type) {
            touched.empty();
            switch (type) {
                case MAILBOX:
                    live.mailboxes.collectChanged(logged.mailboxes, touched);
                    break;
                case EMAIL:
                    live.emails.collectChanged(logged.emails, touched);
                    break;
                case THREAD:
                    touchThreads(logged.emails, live.emails);
                    touchThreads(live.emails, logged.emails);
                    break;
                default:
                    live.submissions.collectChanged(logged.submissions, touched);
                    break;
            }
        }

        /** THREADS of EMAILS that others have not. */
        private void touchThreads(Table emails, Table others) {
            for (int row = 0; row < emails.size; row++) {
                if (!others.has(emails.idAt(row))) {
                    touched.put(emails.cell(row, ITS_THREAD));
                }
            }
        }

        /** There is what the LOG has. */
        void rise() {
            live.copy(logged);
            request.empty();
        }

        // -- the REQUEST

        /** Does a STEP, or tells why not. */
        Word act(int step) {
            int kind = request.part(step, Request.KIND);
            int thing = request.named(step, Request.THING, typeOfThing(kind));
            int place = request.named(step, Request.PLACE, MAILBOX);
            if (thing == NOREF || place == NOREF) {
                return Word.NO_REFERENCE;
            }
            int one = request.part(step, Request.ONE);
            int two = request.part(step, Request.TWO);
            int three = request.part(step, Request.THREE);
            switch (kind) {
                case Request.NEW_MAILBOX:
                    return made(step, MAILBOX, live.mailboxes, live.addMailbox(one, place, two, three));
                case Request.CHANGE_MAILBOX:
                    return live.alterMailbox(thing, one, one == PARENT ? place : two);
                case Request.DROP_MAILBOX:
                    return live.removeMailbox(thing, one == 1);
                case Request.NEW_EMAIL:
                    return made(step, EMAIL, live.emails, live.addEmail(one, place, two, three));
                case Request.CHANGE_EMAIL:
                    return one <= LOSES ? live.alterKeyword(thing, two, one == GETS)
                            : live.alterPlace(thing, place, one == INTO);
                case Request.DROP_EMAIL:
                    return live.removeEmail(thing);
                case Request.SUBMIT:
                    return made(step, SUBMISSION, live.submissions, live.addSubmission(thing, one, two));
                default:
                    return live.undoSubmission(thing);
            }
        }

        private static int typeOfThing(int kind) {
            switch (kind) {
                case Request.CHANGE_MAILBOX:
                case Request.DROP_MAILBOX:
                    return MAILBOX;
                case Request.UNDO:
                    return SUBMISSION;
                default:
                    return EMAIL;
            }
        }

        private Word made(int step, int type, Table table, Word word) {
            if (word == Word.MADE) {
                request.noteMade(step, type, table.lastGiven());
            }
            return word;
        }

        // -- whether all is right

        boolean isRight() {
            boolean isRight = live.areCountsRight() && live.areMailboxesRight() && live.areEmailsRight()
                    && live.isSame(logged);
            for (int type = 0; type < TYPES; type++) {
                collectNow(type);
                isRight = isRight && historyOf(type).isRight(now);
            }
            return isRight;
        }
    }
}
