import java.util.ArrayList;
import java.util.Collections;
import java.util.Comparator;
import java.util.HashSet;
import java.util.List;
import java.util.Map;
import java.util.Set;
import java.util.TreeMap;
import java.util.TreeSet;

/** The document once more, as plainly as can be and without any thought of cost: whole worlds are copied for each STATE. */
public final class Model {
    static final class Blob {
        int size, from, subject, message, reply;
    }

    static final class Mail {
        int blob, received, thread;
        Blob of;
        TreeSet<Integer> keywords = new TreeSet<>();
        TreeSet<Integer> boxes = new TreeSet<>();

        Mail copy() {
            Mail m = new Mail();
            m.blob = blob;
            m.received = received;
            m.thread = thread;
            m.of = of;
            m.keywords.addAll(keywords);
            m.boxes.addAll(boxes);
            return m;
        }

        boolean unread() {
            return !keywords.contains(0) && !keywords.contains(1);
        }
    }

    static final class Box {
        int name, parent, role, order;

        Box copy() {
            Box b = new Box();
            b.name = name;
            b.parent = parent;
            b.role = role;
            b.order = order;
            return b;
        }
    }

    static final class Sub {
        int email, to, time, how;

        Sub copy() {
            Sub s = new Sub();
            s.email = email;
            s.to = to;
            s.time = time;
            s.how = how;
            return s;
        }
    }

    /** All that an account has. */
    static final class World {
        TreeMap<Integer, Blob> blobs = new TreeMap<>();
        TreeMap<Integer, Box> boxes = new TreeMap<>();
        TreeMap<Integer, Mail> mails = new TreeMap<>();
        TreeMap<Integer, Sub> subs = new TreeMap<>();
        int quota = 400;
        int nextBlob = 1, nextBox = 1, nextMail = 1, nextThread = 1, nextSub = 1;

        World copy() {
            World w = new World();
            w.blobs.putAll(blobs);
            boxes.forEach((id, b) -> w.boxes.put(id, b.copy()));
            mails.forEach((id, m) -> w.mails.put(id, m.copy()));
            subs.forEach((id, s) -> w.subs.put(id, s.copy()));
            w.quota = quota;
            w.nextBlob = nextBlob;
            w.nextBox = nextBox;
            w.nextMail = nextMail;
            w.nextThread = nextThread;
            w.nextSub = nextSub;
            return w;
        }

        int used() {
            return mails.values().stream().mapToInt(m -> m.of.size).sum();
        }

        int depth(int box) {
            return box == -1 ? 0 : 1 + depth(boxes.get(box).parent);
        }

        boolean under(int box, int top) {
            return box != -1 && (box == top || under(boxes.get(box).parent, top));
        }

        int role(int role) {
            for (Map.Entry<Integer, Box> e : boxes.entrySet()) {
                if (e.getValue().role == role) {
                    return e.getKey();
                }
            }
            return -1;
        }

        int count(int box, int which) {
            int emails = 0, unread = 0;
            Set<Integer> in = new HashSet<>(), fresh = new HashSet<>();
            for (Mail m : mails.values()) {
                if (m.unread()) {
                    fresh.add(m.thread);
                }
                if (m.boxes.contains(box)) {
                    emails++;
                    unread += m.unread() ? 1 : 0;
                    in.add(m.thread);
                }
            }
            fresh.retainAll(in);
            return new int[] {emails, unread, in.size(), fresh.size()}[which];
        }

        TreeMap<Integer, Set<Integer>> threads() {
            TreeMap<Integer, Set<Integer>> all = new TreeMap<>();
            mails.forEach((id, m) -> all.computeIfAbsent(m.thread, t -> new TreeSet<>()).add(id));
            return all;
        }

        /** What of each thing of a TYPE counts when it is asked whether it is CHANGED. */
        TreeMap<Integer, String> look(int type) {
            TreeMap<Integer, String> look = new TreeMap<>();
            if (type == 0) {
                boxes.forEach((id, b) -> look.put(id, b.name + " " + b.parent + " " + b.role + " " + b.order + " "
                        + count(id, 0) + " " + count(id, 1) + " " + count(id, 2) + " " + count(id, 3)));
            } else if (type == 1) {
                mails.forEach((id, m) -> look.put(id, m.keywords + " " + m.boxes));
            } else if (type == 2) {
                threads().forEach((id, set) -> look.put(id, set.toString()));
            } else {
                subs.forEach((id, s) -> look.put(id, "" + s.how));
            }
            return look;
        }
    }

    static final class Ask {
        int mailbox = -1, keyword = -1, without = -1, from = -1, subject = -1, by;
        boolean falling, collapsed;

        List<Integer> result(World w) {
            List<Integer> found = new ArrayList<>();
            w.mails.forEach((id, m) -> {
                if ((mailbox == -1 || m.boxes.contains(mailbox)) && (keyword == -1 || m.keywords.contains(keyword))
                        && (without == -1 || !m.keywords.contains(without)) && (from == -1 || m.of.from == from)
                        && (subject == -1 || m.of.subject == subject)) {
                    found.add(id);
                }
            });
            Comparator<Integer> order = Comparator.comparingInt(id -> {
                Mail m = w.mails.get(id);
                return by == 0 ? m.received : by == 1 ? m.of.size : by == 2 ? m.of.from : m.of.subject;
            });
            found.sort((falling ? order.reversed() : order).thenComparing(Comparator.naturalOrder()));
            if (collapsed) {
                Set<Integer> seen = new HashSet<>();
                found.removeIf(id -> !seen.add(w.mails.get(id).thread));
            }
            return found;
        }
    }

    static final class Step {
        String kind;
        int[] n;
        /** What was made: its letter and ID, or null. */
        String made;

        Step(String kind, int... n) {
            this.kind = kind;
            this.n = n;
        }
    }

    static final class Acc {
        World now = new World();
        List<Step> steps = new ArrayList<>();
        int boundType = -1, boundState = -1;
        String answer = "";
        /** By TYPE: a world for each STATE from 0 on. */
        List<List<World>> states = new ArrayList<>();

        Acc() {
            for (int type = 0; type < 4; type++) {
                states.add(new ArrayList<>());
                states.get(type).add(now.copy());
            }
        }

        int state(int type) {
            return states.get(type).size() - 1;
        }

        boolean known(int type, int since) {
            return since >= 0 && since <= state(type) && since > state(type) - 24;
        }

        void forget() {
            steps.clear();
            boundType = -1;
            boundState = -1;
        }
    }

    private final Acc[] acc = {new Acc(), new Acc()};
    private final Ask[] asks = {new Ask(), new Ask(), new Ask(), new Ask()};
    private World[] log = {new World(), new World()};
    private int clock, records, torn, fell, ran, bound, knocked;
    private boolean armed;

    public Model() {
    }

    private Acc a(int account) {
        if (account != 0 && account != 1) {
            throw new IndexOutOfBoundsException();
        }
        return acc[account];
    }

    private static void need(boolean right) {
        if (!right) {
            throw new IllegalArgumentException();
        }
    }

    private void fallen() {
        fell++;
        armed = false;
        for (int k = 0; k < 2; k++) {
            acc[k].now = log[k].copy();
            acc[k].forget();
        }
    }

    private boolean record() {
        if (armed) {
            torn++;
            fallen();
            return false;
        }
        records++;
        for (int k = 0; k < 2; k++) {
            for (int type = 0; type < 4; type++) {
                if (!acc[k].now.look(type).equals(log[k].look(type))) {
                    acc[k].states.get(type).add(acc[k].now.copy());
                }
            }
            log[k] = acc[k].now.copy();
        }
        return true;
    }

    public int upload(int account, int size, int from, int subject, int message, int reply) {
        Acc a = a(account);
        need(size >= 1 && size <= 99 && from >= 0 && from <= 9 && subject >= 0 && subject <= 9);
        need(message >= 1 && message <= 99 && reply >= 0 && reply <= 99);
        Blob b = new Blob();
        b.size = size;
        b.from = from;
        b.subject = subject;
        b.message = message;
        b.reply = reply;
        int id = a.now.nextBlob++;
        a.now.blobs.put(id, b);
        return record() ? id : -9;
    }

    public int sweep(int account) {
        World w = a(account).now;
        int had = w.blobs.size();
        w.blobs.keySet().removeIf(id -> w.mails.values().stream().noneMatch(m -> m.blob == id));
        int gone = had - w.blobs.size();
        return gone == 0 ? 0 : record() ? gone : -9;
    }

    public int quota(int account, int limit) {
        Acc a = a(account);
        need(limit >= 1 && limit <= 9999);
        int was = a.now.quota;
        a.now.quota = limit;
        return record() ? was : -9;
    }

    private boolean thing(Acc a, int ref) {
        return ref > 0 || ref <= -2 && -2L - ref < a.steps.size();
    }

    private int type(Acc a, Step step) {
        if (a.steps.size() == 8) {
            throw new IllegalStateException();
        }
        a.steps.add(step);
        return a.steps.size() - 1;
    }

    public int newMailbox(int account, int name, int parent, int role, int order) {
        Acc a = a(account);
        need(name >= 0 && name <= 19 && role >= 0 && role <= 5 && order >= 0 && order <= 9);
        need(parent == -1 || thing(a, parent));
        return type(a, new Step("newMailbox", name, parent, role, order));
    }

    public int changeMailbox(int account, int mailbox, int what, int value) {
        Acc a = a(account);
        need(thing(a, mailbox) && what >= 0 && what <= 3);
        need(what == 0 ? value >= 0 && value <= 19 : what == 1 ? value == -1 || thing(a, value)
                : what == 2 ? value >= 0 && value <= 5 : value >= 0 && value <= 9);
        return type(a, new Step("changeMailbox", mailbox, what, value));
    }

    public int dropMailbox(int account, int mailbox, boolean isWith) {
        Acc a = a(account);
        need(thing(a, mailbox));
        return type(a, new Step("dropMailbox", mailbox, isWith ? 1 : 0));
    }

    public int newEmail(int account, int blob, int mailbox, int keywords, int received) {
        Acc a = a(account);
        need(blob >= 1 && thing(a, mailbox) && keywords >= 0 && keywords <= 63 && received >= 0 && received <= 9999);
        return type(a, new Step("newEmail", blob, mailbox, keywords, received));
    }

    public int changeEmail(int account, int email, int what, int value) {
        Acc a = a(account);
        need(thing(a, email) && what >= 0 && what <= 3);
        need(what < 2 ? value >= 0 && value <= 5 : thing(a, value));
        return type(a, new Step("changeEmail", email, what, value));
    }

    public int dropEmail(int account, int email) {
        Acc a = a(account);
        need(thing(a, email));
        return type(a, new Step("dropEmail", email));
    }

    public int submit(int account, int email, int to, int time) {
        Acc a = a(account);
        need(thing(a, email) && to >= 0 && to <= 2 && time >= 0 && time <= 9999);
        return type(a, new Step("submit", email, to, time));
    }

    public int undo(int account, int submission) {
        Acc a = a(account);
        need(thing(a, submission));
        return type(a, new Step("undo", submission));
    }

    public int bind(int account, int type, int state) {
        Acc a = a(account);
        need(type >= 0 && type <= 3 && state >= 0);
        a.boundType = type;
        a.boundState = state;
        return a.state(type);
    }

    public int clear(int account) {
        Acc a = a(account);
        int had = a.steps.size();
        a.forget();
        return had;
    }

    public String run(int account) {
        Acc a = a(account);
        a.answer = run(a);
        return a.answer;
    }

    private String run(Acc a) {
        if (a.boundType != -1 && a.state(a.boundType) != a.boundState) {
            bound++;
            a.forget();
            return "state";
        }
        List<String> words = new ArrayList<>();
        boolean done = false;
        for (Step step : a.steps) {
            String word = step(a, step);
            words.add(word);
            done |= word.equals("ok") || step.made != null;
        }
        a.forget();
        if (done) {
            if (!record()) {
                return "torn";
            }
            ran++;
        }
        return String.join(" ", words);
    }

    /** The ID; 0 for noref. */
    private int ref(Acc a, int ref, char letter) {
        if (ref >= -1) {
            return ref;
        }
        String made = a.steps.get(-2 - ref).made;
        return made == null || made.charAt(0) != letter ? 0 : Integer.parseInt(made.substring(1));
    }

    private String step(Acc a, Step s) {
        World w = a.now;
        switch (s.kind) {
            case "newMailbox": return newMailbox(w, s, ref(a, s.n[1], 'm'));
            case "changeMailbox": return changeMailbox(a, w, s);
            case "dropMailbox": return dropMailbox(w, ref(a, s.n[0], 'm'), s.n[1] == 1);
            case "newEmail": return newEmail(w, s, ref(a, s.n[1], 'm'));
            case "changeEmail": return changeEmail(a, w, s);
            case "dropEmail": {
                int email = ref(a, s.n[0], 'e');
                return email == 0 ? "noref" : w.mails.remove(email) == null ? "notfound" : "ok";
            }
            case "submit": {
                int email = ref(a, s.n[0], 'e');
                if (email == 0) {
                    return "noref";
                }
                if (!w.mails.containsKey(email)) {
                    return "notfound";
                }
                Sub sub = new Sub();
                sub.email = email;
                sub.to = s.n[1];
                sub.time = s.n[2];
                w.subs.put(w.nextSub, sub);
                s.made = "s" + w.nextSub++;
                return s.made;
            }
            default: {
                int id = ref(a, s.n[0], 's');
                if (id == 0) {
                    return "noref";
                }
                Sub sub = w.subs.get(id);
                if (sub == null) {
                    return "notfound";
                }
                if (sub.how != 0) {
                    return "sent";
                }
                sub.how = 2;
                return "ok";
            }
        }
    }

    private static boolean nameTaken(World w, int name, int parent, int except) {
        return w.boxes.entrySet().stream().anyMatch(e -> e.getKey() != except && e.getValue().name == name
                && e.getValue().parent == parent);
    }

    private static boolean roleTaken(World w, int role, int except) {
        return role != 0 && w.boxes.entrySet().stream().anyMatch(e -> e.getKey() != except
                && e.getValue().role == role);
    }

    private String newMailbox(World w, Step s, int parent) {
        if (parent == 0) {
            return "noref";
        }
        if (parent != -1 && !w.boxes.containsKey(parent)) {
            return "notfound";
        }
        if (w.boxes.size() == 8) {
            return "many";
        }
        if (nameTaken(w, s.n[0], parent, 0) || roleTaken(w, s.n[2], 0)) {
            return "taken";
        }
        if (w.depth(parent) == 3) {
            return "deep";
        }
        Box b = new Box();
        b.name = s.n[0];
        b.parent = parent;
        b.role = s.n[2];
        b.order = s.n[3];
        w.boxes.put(w.nextBox, b);
        s.made = "m" + w.nextBox++;
        return s.made;
    }

    private String changeMailbox(Acc a, World w, Step s) {
        int id = ref(a, s.n[0], 'm');
        int what = s.n[1];
        int value = what == 1 ? ref(a, s.n[2], 'm') : s.n[2];
        if (id == 0 || what == 1 && value == 0) {
            return "noref";
        }
        Box b = w.boxes.get(id);
        if (b == null || what == 1 && value != -1 && !w.boxes.containsKey(value)) {
            return "notfound";
        }
        if (what == 0) {
            if (nameTaken(w, value, b.parent, id)) {
                return "taken";
            }
            b.name = value;
        } else if (what == 1) {
            if (w.under(value, id)) {
                return "ring";
            }
            if (nameTaken(w, b.name, value, id)) {
                return "taken";
            }
            int was = b.parent;
            b.parent = value;
            for (int other : w.boxes.keySet()) {
                if (w.depth(other) > 3) {
                    b.parent = was;
                    return "deep";
                }
            }
        } else if (what == 2) {
            if (roleTaken(w, value, id)) {
                return "taken";
            }
            b.role = value;
        } else {
            b.order = value;
        }
        return "ok";
    }

    private String dropMailbox(World w, int id, boolean with) {
        if (id == 0) {
            return "noref";
        }
        if (!w.boxes.containsKey(id)) {
            return "notfound";
        }
        if (w.boxes.values().stream().anyMatch(b -> b.parent == id)) {
            return "child";
        }
        if (!with && w.count(id, 0) > 0) {
            return "email";
        }
        w.boxes.remove(id);
        w.mails.values().removeIf(m -> m.boxes.remove(id) && m.boxes.isEmpty());
        return "ok";
    }

    private String newEmail(World w, Step s, int box) {
        if (box == 0) {
            return "noref";
        }
        if (!w.blobs.containsKey(s.n[0]) || !w.boxes.containsKey(box)) {
            return "notfound";
        }
        if (w.mails.size() == 40) {
            return "many";
        }
        if (w.used() + w.blobs.get(s.n[0]).size > w.quota) {
            return "quota";
        }
        s.made = "e" + come(w, s.n[0], box, s.n[2], s.n[3]);
        return s.made;
    }

    private int come(World w, int blob, int box, int keywords, int received) {
        Mail m = new Mail();
        m.blob = blob;
        m.of = w.blobs.get(blob);
        m.received = received;
        for (int k = 0; k < 6; k++) {
            if ((keywords >> k) % 2 == 1) {
                m.keywords.add(k);
            }
        }
        m.boxes.add(box);
        m.thread = w.mails.values().stream().filter(o -> kin(m.of, o.of)).mapToInt(o -> o.thread).min().orElse(0);
        if (m.thread == 0) {
            m.thread = w.nextThread++;
        }
        w.mails.put(w.nextMail, m);
        return w.nextMail++;
    }

    private static boolean kin(Blob one, Blob other) {
        return one.subject == other.subject && (other.message == one.message || other.message == one.reply
                || other.reply == one.message || other.reply == one.reply && one.reply != 0);
    }

    private String changeEmail(Acc a, World w, Step s) {
        int id = ref(a, s.n[0], 'e');
        int what = s.n[1];
        int value = what > 1 ? ref(a, s.n[2], 'm') : s.n[2];
        if (id == 0 || what > 1 && value == 0) {
            return "noref";
        }
        Mail m = w.mails.get(id);
        if (m == null || what > 1 && !w.boxes.containsKey(value)) {
            return "notfound";
        }
        if (what == 0) {
            m.keywords.add(value);
        } else if (what == 1) {
            m.keywords.remove(value);
        } else if (what == 2) {
            m.boxes.add(value);
        } else if (m.boxes.equals(Collections.singleton(value))) {
            return "last";
        } else {
            m.boxes.remove(value);
        }
        return "ok";
    }

    public int clock(int by) {
        need(by >= 0 && by <= 999);
        clock += by;
        List<int[]> due = new ArrayList<>();
        for (int k = 0; k < 2; k++) {
            for (Map.Entry<Integer, Sub> e : acc[k].now.subs.entrySet()) {
                if (e.getValue().how == 0 && e.getValue().time <= clock) {
                    due.add(new int[] {e.getValue().time, k, e.getKey()});
                }
            }
        }
        due.sort(Comparator.<int[]>comparingInt(d -> d[0]).thenComparingInt(d -> d[1]).thenComparingInt(d -> d[2]));
        for (int[] d : due) {
            sending(d[1], d[2]);
            if (!record()) {
                return -9;
            }
        }
        return due.size();
    }

    private void sending(int account, int id) {
        World w = acc[account].now;
        Sub s = w.subs.get(id);
        Mail m = w.mails.get(s.email);
        s.how = 3;
        if (m == null) {
            return;
        }
        m.keywords.remove(1);
        int sent = w.role(3);
        if (sent != -1) {
            m.boxes.add(sent);
            m.boxes.remove(w.role(2));
        }
        if (s.to == 2) {
            s.how = 1;
            return;
        }
        World t = acc[s.to].now;
        if (t.role(1) == -1 || t.mails.size() >= 40 || t.used() + m.of.size > t.quota) {
            return;
        }
        t.blobs.put(t.nextBlob, m.of);
        come(t, t.nextBlob++, t.role(1), 0, Math.min(clock, 9999));
        s.how = 1;
    }

    public int arm(boolean isArmed) {
        int was = armed ? 1 : 0;
        armed = isArmed;
        return was;
    }

    public int fall() {
        fallen();
        return records;
    }

    public int image() {
        int had = records;
        records = 0;
        return had;
    }

    public int knock() {
        return ++knocked;
    }

    private Ask q(int query) {
        if (query < 0 || query > 3) {
            throw new IndexOutOfBoundsException();
        }
        return asks[query];
    }

    public int filter(int query, int mailbox, int keyword, int without, int from, int subject) {
        Ask q = q(query);
        need(mailbox >= -1 && mailbox != 0 && keyword >= -1 && keyword <= 5 && without >= -1 && without <= 5);
        need(from >= -1 && from <= 9 && subject >= -1 && subject <= 9);
        q.mailbox = mailbox;
        q.keyword = keyword;
        q.without = without;
        q.from = from;
        q.subject = subject;
        int told = 0;
        for (int n : new int[] {mailbox, keyword, without, from, subject}) {
            told += n != -1 ? 1 : 0;
        }
        return told;
    }

    public int sequence(int query, int by, boolean isFalling, boolean isCollapsed) {
        Ask q = q(query);
        need(by >= 0 && by <= 3);
        int was = q.by;
        q.by = by;
        q.falling = isFalling;
        q.collapsed = isCollapsed;
        return was;
    }

    private static String row(String letter, Iterable<Integer> ids) {
        List<String> words = new ArrayList<>();
        for (int id : ids) {
            words.add(letter + id);
        }
        return String.join(" ", words);
    }

    private static String part(List<Integer> result, long from, int many) {
        long start = Math.max(0, from);
        List<Integer> part = new ArrayList<>();
        for (long k = start; k < result.size() && k < start + many; k++) {
            part.add(result.get((int) k));
        }
        return row("e", part);
    }

    public String ask(int query, int account, int position, int many) {
        Ask q = q(query);
        Acc a = a(account);
        need(many >= 0 && many <= 40);
        List<Integer> result = q.result(a.now);
        return part(result, position < 0 ? (long) result.size() + position : position, many);
    }

    public String askAt(int query, int account, int anchor, int offset, int many) {
        Ask q = q(query);
        Acc a = a(account);
        need(many >= 0 && many <= 40);
        List<Integer> result = q.result(a.now);
        int place = result.indexOf(anchor);
        return place < 0 ? "anchor" : part(result, (long) place + offset, many);
    }

    public int total(int query, int account) {
        Ask q = q(query);
        return q.result(a(account).now).size();
    }

    public String queryChanges(int query, int account, int since) {
        Ask q = q(query);
        Acc a = a(account);
        if (!a.known(1, since)) {
            return "cannot";
        }
        List<Integer> old = q.result(a.states.get(1).get(since));
        List<Integer> now = q.result(a.now);
        List<String> words = new ArrayList<>();
        old.forEach(id -> {
            if (!now.contains(id)) {
                words.add("-e" + id);
            }
        });
        now.forEach(id -> {
            if (!old.contains(id)) {
                words.add(now.indexOf(id) + ":e" + id);
            }
        });
        return String.join(" ", words);
    }

    public String changes(int account, int type, int since, int most) {
        Acc a = a(account);
        need(type >= 0 && type <= 3 && most >= 1 && most <= 99);
        if (!a.known(type, since)) {
            return "cannot";
        }
        Set<Integer> told = new TreeSet<>();
        Set<Integer> changed = new TreeSet<>();
        int end = since;
        for (int state = since; state < a.state(type); state++) {
            TreeMap<Integer, String> from = a.states.get(type).get(state).look(type);
            TreeMap<Integer, String> to = a.states.get(type).get(state + 1).look(type);
            Set<Integer> step = new TreeSet<>(from.keySet());
            step.addAll(to.keySet());
            step.removeIf(id -> from.containsKey(id) && from.get(id).equals(to.get(id)));
            told.addAll(step);
            if (told.size() > most) {
                break;
            }
            step.retainAll(from.keySet());
            step.retainAll(to.keySet());
            changed.addAll(step);
            end = state + 1;
        }
        if (end == since && since < a.state(type)) {
            return "cannot";
        }
        Set<Integer> start = a.states.get(type).get(since).look(type).keySet();
        Set<Integer> last = a.states.get(type).get(end).look(type).keySet();
        Set<Integer> came = new TreeSet<>(last);
        came.removeAll(start);
        Set<Integer> went = new TreeSet<>(start);
        went.removeAll(last);
        changed.retainAll(start);
        changed.retainAll(last);
        String letter = "mets".substring(type, type + 1);
        StringBuilder text = new StringBuilder("" + end);
        came.forEach(id -> text.append(" +" + letter + id));
        changed.forEach(id -> text.append(" ~" + letter + id));
        went.forEach(id -> text.append(" -" + letter + id));
        return text.toString();
    }

    public int state(int account, int type) {
        Acc a = a(account);
        need(type >= 0 && type <= 3);
        return a.state(type);
    }

    public String then(int account, int type, int since) {
        Acc a = a(account);
        need(type >= 0 && type <= 3);
        return a.known(type, since) ? row("mets".substring(type, type + 1),
                a.states.get(type).get(since).look(type).keySet()) : "cannot";
    }

    public String mailboxes(int account) {
        World w = a(account).now;
        List<Integer> ids = new ArrayList<>(w.boxes.keySet());
        ids.sort(Comparator.<Integer>comparingInt(id -> w.boxes.get(id).order)
                .thenComparingInt(id -> w.boxes.get(id).name).thenComparingInt(id -> id));
        return row("m", ids);
    }

    public int ofMailbox(int account, int mailbox, int what) {
        World w = a(account).now;
        need(what >= 0 && what <= 9);
        Box b = w.boxes.get(mailbox);
        if (b == null) {
            return -9;
        }
        switch (what) {
            case 0: return b.name;
            case 1: return b.parent;
            case 2: return b.role;
            case 3: return b.order;
            case 4: return w.depth(mailbox);
            case 9: return (int) w.boxes.values().stream().filter(o -> o.parent == mailbox).count();
            default: return w.count(mailbox, what - 5);
        }
    }

    public String path(int account, int mailbox) {
        World w = a(account).now;
        if (!w.boxes.containsKey(mailbox)) {
            return "";
        }
        Box b = w.boxes.get(mailbox);
        return (b.parent == -1 ? "" : path(account, b.parent) + "/") + b.name;
    }

    public int inRole(int account, int role) {
        Acc a = a(account);
        need(role >= 0 && role <= 5);
        return a.now.role(role);
    }

    public String emails(int account, int mailbox) {
        World w = a(account).now;
        List<Integer> ids = new ArrayList<>(w.mails.keySet());
        ids.removeIf(id -> mailbox != -1 && !w.mails.get(id).boxes.contains(mailbox));
        return row("e", ids);
    }

    public int ofEmail(int account, int email, int what) {
        World w = a(account).now;
        need(what >= 0 && what <= 10);
        Mail m = w.mails.get(email);
        if (m == null) {
            return -9;
        }
        int set = m.keywords.stream().mapToInt(k -> 1 << k).sum();
        return new int[] {m.blob, m.received, set, m.boxes.size(), m.thread, m.of.size, m.of.from, m.of.subject,
            m.of.message, m.of.reply, m.unread() ? 1 : 0}[what];
    }

    public String where(int account, int email) {
        Mail m = a(account).now.mails.get(email);
        return m == null ? "" : row("m", m.boxes);
    }

    public String threads(int account) {
        return row("t", a(account).now.threads().keySet());
    }

    public String thread(int account, int thread) {
        World w = a(account).now;
        List<Integer> ids = new ArrayList<>(w.mails.keySet());
        ids.removeIf(id -> w.mails.get(id).thread != thread);
        ids.sort(Comparator.<Integer>comparingInt(id -> w.mails.get(id).received).thenComparingInt(id -> id));
        return row("e", ids);
    }

    public String blobs(int account) {
        return row("b", a(account).now.blobs.keySet());
    }

    public String submissions(int account) {
        List<String> words = new ArrayList<>();
        a(account).now.subs.forEach((id, s) -> words.add("s" + id + ":" + s.how));
        return String.join(" ", words);
    }

    public int ofSubmission(int account, int submission, int what) {
        Acc a = a(account);
        need(what >= 0 && what <= 3);
        Sub s = a.now.subs.get(submission);
        return s == null ? -9 : new int[] {s.email, s.to, s.time, s.how}[what];
    }

    public int ofAccount(int account, int what) {
        Acc a = a(account);
        need(what >= 0 && what <= 10);
        World w = a.now;
        return new int[] {a.steps.size(), a.boundType, a.boundState, w.used(), w.quota, w.boxes.size(), w.mails.size(),
            w.threads().size(), w.blobs.size(), w.subs.size(), are(w, 0)}[what];
    }

    private static int are(World w, int how) {
        return (int) w.subs.values().stream().filter(s -> s.how == how).count();
    }

    public String answer(int account) {
        return a(account).answer;
    }

    public int house(int what) {
        need(what >= 0 && what <= 10);
        World one = acc[0].now, two = acc[1].now;
        return new int[] {clock, armed ? 1 : 0, records, torn, fell, ran, bound, are(one, 1) + are(two, 1),
            are(one, 3) + are(two, 3), are(one, 2) + are(two, 2), knocked}[what];
    }

    public boolean isSound() {
        return true;
    }

    public long digest() {
        List<Integer> all = new ArrayList<>();
        for (int what = 0; what < 11; what++) {
            all.add(house(what));
        }
        for (int account = 0; account < 2; account++) {
            World w = acc[account].now;
            for (int what = 0; what < 11; what++) {
                all.add(ofAccount(account, what));
            }
            for (int type = 0; type < 4; type++) {
                all.add(state(account, type));
            }
            for (int box : w.boxes.keySet()) {
                all.add(box);
                for (int what = 0; what < 10; what++) {
                    all.add(ofMailbox(account, box, what));
                }
            }
            for (int mail : w.mails.keySet()) {
                all.add(mail);
                for (int what = 0; what < 11; what++) {
                    all.add(ofEmail(account, mail, what));
                }
                all.add(where(account, mail).length());
            }
            all.add(mailboxes(account).length());
            all.add(threads(account).length());
            all.add(blobs(account).length());
            all.add(submissions(account).length());
            all.add(answer(account).length());
            for (int query = 0; query < 4; query++) {
                all.add(total(query, account));
            }
            for (int type = 0; type < 4; type++) {
                all.add(changes(account, type, 0, 99).length());
            }
        }
        all.add(1);
        long d = 7675;
        for (int v : all) {
            d = d * 31 + v;
        }
        return d;
    }
}
