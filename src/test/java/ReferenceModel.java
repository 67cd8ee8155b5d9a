import java.util.ArrayList;
import java.util.List;
import java.util.regex.Matcher;
import java.util.regex.Pattern;

/**
 * The document once more, held in another way than the class holds it: each transaction has two
 * logs of all its changes, a savepoint is a place in both, and a state is copied whole.
 */
final class ReferenceModel {
    static final int NO_SUCH = -1;
    static final int BAD_VALUE = -2;
    static final int TOO_MANY = -3;
    static final int NOT_POSSIBLE = -4;
    static final int NONE = -5;
    static final int BUSY = -6;
    static final int FAILED = -7;

    private static final Pattern ORDER = Pattern.compile(
            "([0-2])(?:([bcr])|([sud])([a-h])|([eg])(1[0-5]|[0-9])"
            + "|(w)(1[0-5]|[0-9])=([1-9][0-9]{0,3}|0))");
    private static final String PLAIN_ORDER =
            "[0-2](?:[bcr]|[sud][a-h]|[eg](?:1[0-5]|[0-9])"
            + "|w(?:1[0-5]|[0-9])=(?:[1-9][0-9]{0,3}|0))";
    private static final Pattern SCRIPT = Pattern.compile(PLAIN_ORDER + "(?:;" + PLAIN_ORDER + ")*");

    /** A change of a key's value or mode: what was there before it; null is no value. */
    private record Change(int key, Integer before) { }

    private record Mark(int name, int valuePlace, int lockPlace) { }

    private static final class Session {
        boolean isOpen;
        List<Change> valueLog = new ArrayList<>();
        List<Change> lockLog = new ArrayList<>();
        List<Mark> marks = new ArrayList<>();
        int[] modes = new int[16];

        Session copy() {
            Session copy = new Session();
            copy.isOpen = isOpen;
            copy.valueLog = new ArrayList<>(valueLog);
            copy.lockLog = new ArrayList<>(lockLog);
            copy.marks = new ArrayList<>(marks);
            copy.modes = modes.clone();
            return copy;
        }

        Mark start() {
            return new Mark(-1, 0, 0);
        }

        Mark here() {
            return new Mark(-1, valueLog.size(), lockLog.size());
        }

        int nearest(int name) {
            int found = NONE;
            for (int i = 0; i < marks.size(); i++) {
                if (marks.get(i).name() == name) {
                    found = i;
                }
            }
            return found;
        }

        static int keysOf(List<Change> log, int place) {
            int keys = 0;
            for (Change change : log.subList(place, log.size())) {
                keys |= 1 << change.key();
            }
            return keys;
        }

        Integer valueAt(Mark mark, int key, Integer present) {
            for (Change change : valueLog.subList(mark.valuePlace(), valueLog.size())) {
                if (change.key() == key) {
                    return change.before();
                }
            }
            return present;
        }
    }

    private static final class World {
        int keep;
        Integer[] values = new Integer[16];
        Session[] sessions = {new Session(), new Session(), new Session()};
        int[] totals = new int[7];

        World copy() {
            World copy = new World();
            copy.keep = keep;
            copy.values = values.clone();
            for (int i = 0; i < 3; i++) {
                copy.sessions[i] = sessions[i].copy();
            }
            copy.totals = totals.clone();
            return copy;
        }
    }

    private static final class Stop extends Exception {
        private static final long serialVersionUID = 1L;
        private final int code;

        Stop(int code) {
            super(null, null, false, false);
            this.code = code;
        }
    }

    private interface Body {
        int run(Session session) throws Stop;
    }

    private World world = new World();
    private World saved;
    private final List<World> history = new ArrayList<>();
    private String text = "";
    private boolean isInScript;

    private void record() {
        if (isInScript) {
            return;
        }
        history.add(world.copy());
        if (history.size() > 5) {
            history.remove(0);
        }
    }

    private static boolean out(int number, int last) {
        return number < 0 || number > last;
    }

    private static boolean same(Integer a, Integer b) {
        return a == null ? b == null : a.equals(b);
    }

    private static int orNone(Integer value) {
        return value == null ? NONE : value;
    }

    private int countValues() {
        int count = 0;
        for (Integer value : world.values) {
            if (value != null) {
                count++;
            }
        }
        return count;
    }

    int keep(boolean isKept) {
        record();
        int previous = world.keep;
        world.keep = isKept ? 1 : 0;
        return previous;
    }

    int begin(int s) {
        if (out(s, 2)) {
            return NO_SUCH;
        }
        if (world.sessions[s].isOpen) {
            return NOT_POSSIBLE;
        }
        record();
        world.sessions[s].isOpen = true;
        int open = 0;
        for (Session session : world.sessions) {
            open += session.isOpen ? 1 : 0;
        }
        return open;
    }

    int commit(int s) {
        if (out(s, 2)) {
            return NO_SUCH;
        }
        if (!world.sessions[s].isOpen) {
            return NOT_POSSIBLE;
        }
        record();
        int count = 0;
        for (int key = 0; key < 16; key++) {
            Session session = world.sessions[s];
            if (!same(session.valueAt(session.start(), key, world.values[key]), world.values[key])) {
                count++;
            }
        }
        world.sessions[s] = new Session();
        world.totals[0]++;
        return count;
    }

    int rollback(int s) {
        if (out(s, 2)) {
            return NO_SUCH;
        }
        if (!world.sessions[s].isOpen) {
            return NOT_POSSIBLE;
        }
        record();
        int count = undoTo(world.sessions[s], world.sessions[s].start());
        world.sessions[s] = new Session();
        world.totals[1]++;
        return count;
    }

    private int undoTo(Session session, Mark mark) {
        Integer[] old = world.values.clone();
        while (session.valueLog.size() > mark.valuePlace()) {
            Change change = session.valueLog.remove(session.valueLog.size() - 1);
            world.values[change.key()] = change.before();
        }
        while (world.keep == 0 && session.lockLog.size() > mark.lockPlace()) {
            Change change = session.lockLog.remove(session.lockLog.size() - 1);
            session.modes[change.key()] = change.before();
        }
        int count = 0;
        for (int key = 0; key < 16; key++) {
            count += same(old[key], world.values[key]) ? 0 : 1;
        }
        return count;
    }

    int savepoint(int s, int name) {
        if (out(s, 2)) {
            return NO_SUCH;
        }
        if (out(name, 7)) {
            return BAD_VALUE;
        }
        Session session = world.sessions[s];
        if (!session.isOpen) {
            return NOT_POSSIBLE;
        }
        if (session.marks.size() == 12) {
            return TOO_MANY;
        }
        record();
        session.marks.add(new Mark(name, session.valueLog.size(), session.lockLog.size()));
        world.totals[6]++;
        return session.marks.size() - 1;
    }

    private int find(int s, int name) {
        if (out(s, 2)) {
            return NO_SUCH;
        }
        if (out(name, 7)) {
            return BAD_VALUE;
        }
        if (!world.sessions[s].isOpen || world.sessions[s].nearest(name) < 0) {
            return NOT_POSSIBLE;
        }
        return world.sessions[s].nearest(name);
    }

    int undoTo(int s, int name) {
        int found = find(s, name);
        if (found < 0) {
            return found;
        }
        record();
        Session session = world.sessions[s];
        int count = undoTo(session, session.marks.get(found));
        session.marks.subList(found + 1, session.marks.size()).clear();
        world.totals[5]++;
        return count;
    }

    int release(int s, int name) {
        int found = find(s, name);
        if (found < 0) {
            return found;
        }
        record();
        List<Mark> going = world.sessions[s].marks;
        int count = going.size() - found;
        going.subList(found, going.size()).clear();
        return count;
    }

    private boolean isBusy(int s, int key, int mode) {
        if (world.sessions[s].modes[key] >= mode) {
            return false;
        }
        for (int other = 0; other < 3; other++) {
            int held = world.sessions[other].modes[key];
            if (other != s && (held == 2 || mode == 2 && held == 1)) {
                return true;
            }
        }
        return false;
    }

    private void lock(int s, int key, int mode) throws Stop {
        if (isBusy(s, key, mode)) {
            throw new Stop(BUSY);
        }
        Session session = world.sessions[s];
        if (session.modes[key] < mode) {
            session.lockLog.add(new Change(key, session.modes[key]));
            session.modes[key] = mode;
        }
    }

    private int change(int s, int key, Integer value) {
        Integer before = world.values[key];
        world.sessions[s].valueLog.add(new Change(key, before));
        world.values[key] = value;
        return orNone(before);
    }

    private int addTo(int s, int key, int delta, Integer ifNone) throws Stop {
        lock(s, key, 2);
        Integer before = world.values[key] == null ? ifNone : world.values[key];
        if (before == null || out(before + delta, 9999)) {
            throw new Stop(FAILED);
        }
        change(s, key, before + delta);
        return before + delta;
    }

    private int statement(int s, boolean isBad, Body body, int... keys) {
        if (out(s, 2)) {
            return NO_SUCH;
        }
        for (int key : keys) {
            if (out(key, 15)) {
                return NO_SUCH;
            }
        }
        if (isBad) {
            return BAD_VALUE;
        }
        Session session = world.sessions[s];
        if (!session.isOpen) {
            return NOT_POSSIBLE;
        }
        record();
        Mark before = session.here();
        try {
            int answer = body.run(session);
            world.totals[2]++;
            return answer;
        } catch (Stop stop) {
            undoTo(session, before);
            world.totals[stop.code == BUSY ? 3 : 4]++;
            return stop.code;
        }
    }

    int read(int s, int key) {
        return statement(s, false, session -> {
            lock(s, key, 1);
            return orNone(world.values[key]);
        }, key);
    }

    int write(int s, int key, int value) {
        return statement(s, out(value, 9999), session -> {
            lock(s, key, 2);
            return change(s, key, value);
        }, key);
    }

    int erase(int s, int key) {
        return statement(s, false, session -> {
            lock(s, key, 2);
            return change(s, key, null);
        }, key);
    }

    int shift(int s, int keys, int delta) {
        return statement(s, out(keys - 1, 65534) || delta < -9999 || delta > 9999, session -> {
            int count = 0;
            for (int key = 0; key < 16; key++) {
                if ((keys & 1 << key) != 0) {
                    addTo(s, key, delta, null);
                    count++;
                }
            }
            return count;
        });
    }

    int move(int s, int from, int to, int amount) {
        return statement(s, amount < 1 || amount > 9999 || from == to, session -> {
            addTo(s, from, -amount, null);
            return addTo(s, to, amount, 0);
        }, from, to);
    }

    int append(int character) {
        if (character < 32 || character > 126) {
            return BAD_VALUE;
        }
        if (text.length() == 80) {
            return TOO_MANY;
        }
        text += (char) character;
        return text.length();
    }

    int clearText() {
        int length = text.length();
        text = "";
        return length;
    }

    int fault() {
        return faultOf(text);
    }

    /** A text can still become a script just if the matcher would go on reading at its end. */
    static int faultOf(String text) {
        if (SCRIPT.matcher(text).matches()) {
            return NONE;
        }
        for (int length = 1; length <= text.length(); length++) {
            Matcher matcher = SCRIPT.matcher(text.substring(0, length));
            if (!matcher.matches() && !matcher.hitEnd()) {
                return length - 1;
            }
        }
        return text.length();
    }

    int perform() {
        int fault = fault();
        if (fault != NONE) {
            return -100 - fault;
        }
        record();
        isInScript = true;
        int count = 0;
        for (String order : text.split(";")) {
            int answer = perform(order);
            if (answer < 0 && answer != NONE) {
                break;
            }
            count++;
        }
        isInScript = false;
        return count;
    }

    private int perform(String order) {
        Matcher m = ORDER.matcher(order);
        if (!m.matches()) {
            throw new IllegalStateException(order);
        }
        int s = Integer.parseInt(m.group(1));
        if (m.group(2) != null) {
            return m.group(2).equals("b") ? begin(s) : m.group(2).equals("c") ? commit(s) : rollback(s);
        }
        if (m.group(3) != null) {
            int name = "abcdefgh".indexOf(m.group(4));
            return m.group(3).equals("s") ? savepoint(s, name)
                    : m.group(3).equals("u") ? undoTo(s, name) : release(s, name);
        }
        if (m.group(5) != null) {
            int key = Integer.parseInt(m.group(6));
            return m.group(5).equals("e") ? erase(s, key) : read(s, key);
        }
        return write(s, Integer.parseInt(m.group(8)), Integer.parseInt(m.group(9)));
    }

    int undo() {
        if (history.isEmpty()) {
            return NONE;
        }
        world = history.remove(history.size() - 1);
        return history.size();
    }

    int save() {
        saved = world.copy();
        return countValues();
    }

    int restore() {
        if (saved == null) {
            return NOT_POSSIBLE;
        }
        record();
        world = saved.copy();
        return countValues();
    }

    int value(int key) {
        return out(key, 15) ? NO_SUCH : orNone(world.values[key]);
    }

    int committed(int key) {
        if (out(key, 15)) {
            return NO_SUCH;
        }
        for (Session session : world.sessions) {
            if ((Session.keysOf(session.valueLog, 0) & 1 << key) != 0) {
                return orNone(session.valueAt(session.start(), key, null));
            }
        }
        return orNone(world.values[key]);
    }

    int mode(int s, int key) {
        return out(s, 2) || out(key, 15) ? NO_SUCH : world.sessions[s].modes[key];
    }

    int busyFor(int key, int mode) {
        if (out(key, 15)) {
            return NO_SUCH;
        }
        if (mode != 1 && mode != 2) {
            return BAD_VALUE;
        }
        int mask = 0;
        for (int s = 0; s < 3; s++) {
            mask += isBusy(s, key, mode) ? 1 << s : 0;
        }
        return mask;
    }

    int session(int s, int what) {
        if (out(s, 2)) {
            return NO_SUCH;
        }
        if (out(what, 4)) {
            return BAD_VALUE;
        }
        Session session = world.sessions[s];
        int[] modes = new int[3];
        for (int mode : session.modes) {
            modes[mode]++;
        }
        int[] numbers = {session.isOpen ? 1 : 0, session.marks.size(),
            Integer.bitCount(Session.keysOf(session.valueLog, 0)), modes[1], modes[2]};
        return numbers[what];
    }

    int nameOf(int s, int savepoint) {
        return out(s, 2) || out(savepoint, world.sessions[s].marks.size() - 1)
                ? NO_SUCH : world.sessions[s].marks.get(savepoint).name();
    }

    int nearest(int s, int name) {
        return out(s, 2) ? NO_SUCH : out(name, 7) ? BAD_VALUE : world.sessions[s].nearest(name);
    }

    int changedSince(int s, int savepoint, boolean isLocks) {
        if (out(s, 2) || out(savepoint, world.sessions[s].marks.size() - 1)) {
            return NO_SUCH;
        }
        Session session = world.sessions[s];
        Mark mark = session.marks.get(savepoint);
        return isLocks ? Session.keysOf(session.lockLog, mark.lockPlace())
                : Session.keysOf(session.valueLog, mark.valuePlace());
    }

    int ifUndone(int s, int name, int key) {
        if (out(s, 2) || out(key, 15)) {
            return NO_SUCH;
        }
        int found = find(s, name);
        if (found < 0) {
            return found;
        }
        World real = world;
        world = world.copy();
        undoTo(world.sessions[s], world.sessions[s].marks.get(found));
        int answer = orNone(world.values[key]);
        world = real;
        return answer;
    }

    int total(int what) {
        return out(what, 6) ? NO_SUCH : world.totals[what];
    }

    double mean() {
        double sum = 0.0;
        for (Integer value : world.values) {
            sum += value == null ? 0 : value;
        }
        return countValues() == 0 ? 0.0 : sum / countValues();
    }
}
