import java.util.ArrayList;
import java.util.List;

/**
 * A row of calls on a new garden. A refused call must throw just the exception that is due, and a garden on which it
 * was tried must answer all that can be asked as one on which it was not.
 */
final class Scene {
    interface Call {
        Object on(Vaultgarden x);
    }

    private interface Numbered {
        Object on(Vaultgarden x, int number);
    }

    private static final class Probe {
        final String told;
        final Call call;

        Probe(String told, Call call) {
            this.told = told;
            this.call = call;
        }
    }

    /** The document promises nothing about later calls. */
    private static final int MOST_CALLS = 512;

    private final Check check;
    private final Vaultgarden garden = new Vaultgarden();
    private final List<Call> calls = new ArrayList<>();
    private int made;
    /** What is asked behind a refused call and what is answered without it; null when another call came since. */
    private List<Probe> probes;
    private List<String> answers;

    Scene(Check check) {
        this.check = check;
    }

    /** Users 0 to 3; group 0 with the owner 0, the quota 12 and the member 1, group 1 with the owner 2, the quota 2. */
    static Scene garden(Check check) {
        Scene scene = new Scene(check);
        for (int secret = 0; secret < 4; secret++) {
            int own = secret;
            scene.with(x -> x.addUser(own));
        }
        return scene.with(x -> x.addGroup(0, 12)).with(x -> x.addGroup(2, 2)).with(x -> x.join(0, 1));
    }

    /** The same garden with the file 0 in group 0, its part 0 written by user 0. */
    static Scene gardenWithFile(Check check) {
        return garden(check).with(x -> x.addFile(0, 0)).with(x -> x.write(0, 0, 0, 70));
    }

    /** A call that only prepares: it must be answered. */
    Scene with(Call call) {
        count();
        call.on(garden);
        calls.add(call);
        probes = null;
        return this;
    }

    /** Lets user 0 write part 0 of file 0 until the log has so many leaves. */
    Scene withLeaves(int leaves) {
        int before = garden.leaves();
        made++;
        for (int i = before; i < leaves; i++) {
            int value = i;
            with(x -> x.write(0, 0, 0, value));
        }
        check.due("the leaves of the scene", garden.leaves(), leaves);
        made++;
        return this;
    }

    void due(String told, Object want, Call call) {
        count();
        check.due(told, Check.outcome(() -> call.on(garden)), want);
        calls.add(call);
        probes = null;
    }

    void refused(String told, Class<? extends RuntimeException> want, Call call) {
        count();
        check.refused(told, want, () -> call.on(garden));
        changesNothing(told, call);
    }

    /** A number that the scene's garden answers, for use in what is due later. */
    int number(Call call) {
        count();
        calls.add(call);
        probes = null;
        return (Integer) call.on(garden);
    }

    private void count() {
        made++;
        if (made > MOST_CALLS) {
            throw new IllegalStateException("a scene makes more calls than the document speaks of");
        }
    }

    private void changesNothing(String told, Call refused) {
        if (calls.size() + 30 > MOST_CALLS) {
            throw new IllegalStateException("a scene leaves no calls to look for changes");
        }
        if (probes == null) {
            probes = findProbes();
            answers = answersTo(null);
        }
        List<String> behind = answersTo(refused);
        for (int i = 0; i < answers.size(); i++) {
            if (!answers.get(i).equals(behind.get(i))) {
                check.due(probes.get(i).told + " behind the refused " + told, behind.get(i), answers.get(i));
                return;
            }
        }
        check.due("changed by " + told, 0, 0);
    }

    /** The answers to all probes, of gardens that make no more calls than the document speaks of. */
    private List<String> answersTo(Call first) {
        List<String> all = new ArrayList<>();
        while (all.size() < probes.size()) {
            Vaultgarden twin = replayed();
            if (first != null) {
                Check.outcome(() -> first.on(twin));
            }
            // A probe makes at most two calls.
            for (int made = calls.size() + 1; made + 2 <= MOST_CALLS && all.size() < probes.size(); made += 2) {
                Probe probe = probes.get(all.size());
                all.add(Check.outcome(() -> probe.call.on(twin)));
            }
        }
        return all;
    }

    private Vaultgarden replayed() {
        Vaultgarden twin = new Vaultgarden();
        for (Call call : calls) {
            Check.outcome(() -> call.on(twin));
        }
        return twin;
    }

    // ---- what can be asked ----

    private List<Probe> findProbes() {
        probes = new ArrayList<>();
        int users = countOf((x, number) -> x.head(number));
        int groups = countOf((x, number) -> x.epoch(number));
        int files = countOf((x, number) -> x.mark(number));
        for (int file = 0; file < files; file++) {
            askFile(file, users);
        }
        askGroups(groups, users);
        askUsers(users);
        askWholeGarden();
        changeUsers(users);
        changeWords(groups, users);
        changeDrafts(files, users);
        changeTheRest(groups);
        return probes;
    }

    private int countOf(Numbered question) {
        Vaultgarden twin = replayed();
        int number = 0;
        while (number < 20 && !isRefused(twin, question, number)) {
            number++;
        }
        return number;
    }

    private static boolean isRefused(Vaultgarden twin, Numbered question, int number) {
        return Check.outcome(() -> question.on(twin, number)).startsWith("throws");
    }

    private void add(String told, Call call) {
        probes.add(new Probe(told, call));
    }

    private void askFile(int file, int users) {
        add("mark(" + file + ")", x -> x.mark(file));
        add("status(" + file + ")", x -> x.status(file));
        Vaultgarden twin = replayed();
        for (int part = 0; part < 8; part++) {
            int own = part;
            String told = "(" + file + ", " + part + ")";
            add("writes" + told, x -> x.writes(file, own));
            if (!isRefused(twin, (x, number) -> x.cipher(file, number), part)) {
                add("cipher" + told, x -> x.cipher(file, own));
                add("version" + told, x -> x.version(file, own));
                for (int user = 0; user < users; user++) {
                    askPart(user, file, part);
                }
            }
        }
    }

    private void askPart(int user, int file, int part) {
        String told = "(" + user + ", " + file + ", " + part + ")";
        add("read" + told, x -> x.read(user, file, part));
        add("canRead" + told, x -> x.canRead(user, file, part));
        add("canReadByGrants" + told, x -> x.canReadByGrants(user, file, part));
    }

    private void askGroups(int groups, int users) {
        for (int i = 0; i < groups; i++) {
            int group = i;
            add("epoch(" + i + ")", x -> x.epoch(group));
            add("parts(" + i + ")", x -> x.parts(group));
            add("loadBits(" + i + ")", x -> x.loadBits(group));
            for (int j = 0; j < users; j++) {
                int user = j;
                add("isMember(" + i + ", " + j + ")", x -> x.isMember(group, user));
                add("known(" + i + ", " + j + ")", x -> x.known(group, user));
            }
        }
    }

    private void askUsers(int users) {
        for (int i = 0; i < users; i++) {
            int user = i;
            add("head(" + i + ")", x -> x.head(user));
            add("alarms(" + i + ")", x -> x.alarms(user));
            for (int j = 1; j <= 8; j++) {
                int place = j;
                add("share(" + i + ", " + j + ")", x -> x.share(user, place));
            }
        }
    }

    private void askWholeGarden() {
        add("leaves()", x -> x.leaves());
        add("root of all leaves", x -> x.root(x.leaves()));
        add("recovered()", x -> x.recovered());
        add("conflicts()", x -> x.conflicts());
        add("meanToldBits()", x -> x.meanToldBits());
        add("isSound()", x -> x.isSound());
        for (char letter : new char[] {'n', 'r', 'f'}) {
            add("shown(" + letter + ")", x -> x.shown(letter));
        }
        for (int i = 0; i < 20; i++) {
            int index = i;
            add("foundAt(" + i + ")", x -> x.foundAt(index));
            if (i < 10) {
                add("conflictAt(" + i + ")", x -> x.conflictAt(index));
            }
        }
    }

    /** From here on the questions change the garden, to bring forth what is kept and not told. */
    private void changeUsers(int users) {
        for (int i = 0; i < users; i++) {
            int user = i;
            add("split(" + i + ", 1, 1)", x -> x.split(user, 1, 1));
            add("share(" + i + ", 1), all of it", x -> x.share(user, 1));
            for (int j = i + 1; j < users; j++) {
                int other = j;
                add("meet(" + i + ", " + j + ")", x -> x.meet(user, other));
            }
            add("show(" + i + ", all leaves)", x -> x.show(user, x.leaves()));
        }
        add("collect(8, 5)", x -> x.collect(8, 5));
        add("recovered(), one more", x -> x.recovered());
        add("drop()", x -> x.drop());
    }

    private void changeWords(int groups, int users) {
        for (int i = 0; i < users; i++) {
            int user = i;
            add("tell(" + i + ", 0, 0)", x -> x.tell(user, 0, 0));
            for (int j = 0; j < groups; j++) {
                int group = j;
                for (int word : new int[] {0, 5, 56, 99}) {
                    add("ask(" + i + ", " + j + ", " + word + ")", x -> x.ask(user, group, word));
                }
            }
        }
        add("shown(n), asked", x -> x.shown('n'));
        add("shown(f), asked", x -> x.shown('f'));
    }

    private void changeDrafts(int files, int users) {
        for (int i = 0; i < users; i++) {
            int user = i;
            add("goAway(" + i + ")", x -> x.goAway(user));
            add("draft(" + i + ", 0, 7, 1)", x -> x.draft(user, 0, 7, 1));
            add("comeBack(" + i + ")", x -> x.comeBack(user));
            for (int j = 0; j < 10; j++) {
                int index = j;
                add("conflictAt(" + j + "), " + i + " is back", x -> x.conflictAt(index));
            }
        }
        for (int i = 0; i < files; i++) {
            int file = i;
            add("mark(" + i + "), all are back", x -> x.mark(file));
        }
    }

    private void changeTheRest(int groups) {
        add("addUser(1)", x -> x.addUser(1));
        add("addGroup(0, 1)", x -> x.addGroup(0, 1));
        add("addFile(0, 0)", x -> x.addFile(0, 0));
        for (int i = 0; i < groups; i++) {
            int group = i;
            for (int user : new int[] {0, 1, 2, 3}) {
                add("join(" + i + ", " + user + ")", x -> x.join(group, user));
            }
            add("leave(" + i + ", 1, true)", x -> x.leave(group, 1, true));
        }
        add("throwAway(0, 0)", x -> x.throwAway(0, 0));
        add("purge()", x -> x.purge());
        add("forget(0)", x -> x.forget(0));
    }
}
