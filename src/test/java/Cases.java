import java.lang.reflect.Method;
import java.lang.reflect.Modifier;
import java.util.ArrayList;
import java.util.Arrays;
import java.util.Comparator;
import java.util.IdentityHashMap;
import java.util.List;
import java.util.Map;
import java.util.Set;
import java.util.TreeSet;

/**
 * What the tests of single sentences share. Each of their methods that is not private is a case and is
 * run by itself; its name begins with the promise's number, or with the name of the document's section.
 */
abstract class Cases {
    static final int NO_SUCH = SavepointStore.NO_SUCH;
    static final int BAD_VALUE = SavepointStore.BAD_VALUE;
    static final int TOO_MANY = SavepointStore.TOO_MANY;
    static final int NOT_POSSIBLE = SavepointStore.NOT_POSSIBLE;
    static final int NONE = SavepointStore.NONE;
    static final int BUSY = SavepointStore.BUSY;
    static final int FAILED = SavepointStore.FAILED;

    static final int MIN = Integer.MIN_VALUE;
    static final int MAX = Integer.MAX_VALUE;

    /** One below the least, one above the greatest, and numbers that a mask or a shift would wrap. */
    static final int[] NO_SESSIONS = {-1, 3, 4, 32, 65536, MIN, MAX};
    static final int[] NO_KEYS = {-1, 16, 17, 32, 65536, MIN, MAX};
    static final int[] NO_NAMES = {-1, 8, 9, 16, 65536, MIN, MAX};

    private final Checks checks = new Checks();
    private final Map<Run, String> pictures = new IdentityHashMap<>();
    private String sentence = "";

    /** Runs all cases of these promises; each promise has to have one. */
    final void runAll(int firstPromise, int lastPromise) throws ReflectiveOperationException {
        String[] heads = new String[lastPromise - firstPromise + 1];
        Arrays.setAll(heads, index -> "promise" + (firstPromise + index));
        runAll(heads);
    }

    /** Runs all cases; each begins with one of these heads, and each head has to have one. */
    final void runAll(String... heads) throws ReflectiveOperationException {
        Set<String> missing = new TreeSet<>(Arrays.asList(heads));
        int run = 0;
        for (Method method : cases()) {
            sentence = method.getName();
            Set<String> borne = new TreeSet<>(Arrays.asList(heads));
            borne.removeIf(head -> !bears(sentence, head));
            holds("its name begins with a head of this test", !borne.isEmpty());
            missing.removeAll(borne);
            method.invoke(this);
            run++;
        }
        sentence = getClass().getName();
        holds("no head is without a case: " + missing, missing.isEmpty());
        System.out.println(run + " cases");
        checks.end();
    }

    private List<Method> cases() {
        List<Method> cases = new ArrayList<>();
        for (Method method : getClass().getDeclaredMethods()) {
            int modifiers = method.getModifiers();
            if (!Modifier.isPrivate(modifiers) && !Modifier.isStatic(modifiers)) {
                cases.add(method);
            }
        }
        cases.sort(Comparator.comparing(Method::getName));
        return cases;
    }

    /** promise1 is the head of promise1EmptyText, and not of promise12Busy. */
    static boolean bears(String name, String head) {
        return name.matches(head + "[A-Z].*");
    }

    final void due(String call, long got, long want) {
        checks.due(sentence + ": " + call, got, want);
    }

    final void dueDouble(String call, double got, double want) {
        checks.dueDouble(sentence + ": " + call, got, want);
    }

    final void holds(String claim, boolean isSo) {
        checks.holds(sentence + ": " + claim, isSo);
    }

    /** In each scene the call answers the code and changes nothing. */
    final void refused(String name, int code, Call call, Run... scenes) {
        for (Run scene : scenes) {
            due(name, call.on(scene.made()), code);
            changesNothing(name, call, scene);
        }
    }

    final void changesNothing(String name, Call call, Run scene) {
        String before = pictures.computeIfAbsent(scene, Picture::of);
        holds(name + " changes nothing", Picture.of(scene.then(call::on)).equals(before));
    }

    /**
     * The statement ends with BUSY or FAILED and is undone, which leaves nothing of it, as KEEP is 0,
     * but one more in the total, and one more state in the history, as the call is an action.
     */
    final void undone(String name, int code, Call statement, Run scene) {
        Run behind = scene.then(statement::on);
        due(name, statement.on(scene.made()), code);
        sameState(name + " is undone", behind, scene);
        for (int what = 0; what < 7; what++) {
            boolean isCounted = what == (code == BUSY ? 3 : 4);
            due("total(" + what + ") behind " + name, behind.made().total(what),
                    scene.made().total(what) + (isCounted ? 1 : 0));
        }
        recorded(name, statement, scene);
    }

    /** The queries, undoTo and rollback tell the same of both. */
    final void sameState(String claim, Run got, Run want) {
        holds(claim, Picture.ofState(got).equals(Picture.ofState(want)));
    }

    final void sameTotals(String claim, Run got, Run want) {
        holds(claim, Picture.ofTotals(got).equals(Picture.ofTotals(want)));
    }

    /** The call is an action: undo brings back the state before it. */
    final void recorded(String name, Call call, Run scene) {
        Run undone = scene.then(call::on).then(SavepointStore::undo);
        due("states behind " + name, statesOf(scene.then(call::on)), Math.min(statesOf(scene) + 1, 5));
        sameState("the state behind undo of " + name, undone, scene);
        sameTotals("the totals behind undo of " + name, undone, scene);
    }

    static int statesOf(Run run) {
        return Checks.emptyHistory(run.made());
    }

    /** Each key's bit in the mask: whether the session has the mode on it. */
    final void dueModes(String name, SavepointStore store, int session, int mode, int mask) {
        int keys = 0;
        for (int key = 0; key < 16; key++) {
            keys |= store.mode(session, key) == mode ? 1 << key : 0;
        }
        due(name, keys, mask);
    }

    /** The session has no transaction, and so no locks and no savepoints. */
    final void dueClosed(SavepointStore store, int session) {
        for (int what = 0; what < 5; what++) {
            due("session(" + session + ", " + what + ")", store.session(session, what), 0);
        }
        dueModes("keys without a lock", store, session, 0, 65535);
        for (int name = 0; name < 8; name++) {
            due("nearest(" + session + ", " + name + ")", store.nearest(session, name), NONE);
        }
        for (int savepoint = 0; savepoint < 12; savepoint++) {
            due("nameOf(" + session + ", " + savepoint + ")", store.nameOf(session, savepoint), NO_SUCH);
        }
    }
}
