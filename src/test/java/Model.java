import java.math.BigInteger;
import java.util.ArrayList;
import java.util.HashSet;
import java.util.LinkedHashMap;
import java.util.List;
import java.util.Map;
import java.util.NoSuchElementException;
import java.util.Set;
import java.util.TreeMap;
import java.util.TreeSet;

/** The document once more, with sets and lists and nothing kept that can be found again. */
final class Model {
    static final BigInteger P = BigInteger.valueOf(65521);

    static final class M {
        final int secret;
        boolean away;
        int headLeaves;
        int headRoot;
        int alarms;
        int many;
        int needed;
        final LinkedHashMap<Integer, int[]> drafts = new LinkedHashMap<>();

        M(int secret) {
            this.secret = secret;
        }
    }

    static final class G {
        int owner;
        int quota;
        int epoch;
        final Set<Integer> members = new TreeSet<>();
        final Map<Integer, TreeSet<Integer>> keys = new TreeMap<>();
    }

    static final class P1 {
        int value;
        int cipher;
        int version;
        int writes;
    }

    static final class F {
        int group;
        boolean thrown;
        int mark;
        final List<Integer> epochOfVersion = new ArrayList<>();
        final TreeMap<Integer, P1> parts = new TreeMap<>();
    }

    final List<M> users = new ArrayList<>();
    final List<G> groups = new ArrayList<>();
    final List<F> files = new ArrayList<>();
    final List<Integer> log = new ArrayList<>();
    /** What happened: {'j' or 'l', group, user} or {'w', file, part}. */
    final List<int[]> history = new ArrayList<>();
    final Set<List<Integer>> tokens = new HashSet<>();
    final Set<Integer> shownTokens = new HashSet<>();
    List<Integer> found = new ArrayList<>();
    int shownNew;
    int shownRepeated;
    int shownFiles;
    int questions;
    final TreeMap<Integer, Integer> collected = new TreeMap<>();
    List<Integer> conflictList = new ArrayList<>();

    // ---- ciphers ----

    static int seal(int x, int k) {
        for (int r = 0; r < 4; r++) {
            x = 5 * Integer.rotateLeft(x ^ (k + r * -1640531527), 5) + 3;
        }
        return x;
    }

    static int unseal(int x, int k) {
        int fifth = BigInteger.valueOf(5).modInverse(BigInteger.ONE.shiftLeft(32)).intValue();
        for (int r = 3; r >= 0; r--) {
            x = Integer.rotateRight((x - 3) * fifth, 5) ^ (k + r * -1640531527);
        }
        return x;
    }

    static int mix(int a, int b) {
        return a ^ seal(a, b);
    }

    static int keyOfPart(int file, int version, int part) {
        return mix(mix(mix(4, file), version), part);
    }

    // ---- needs ----

    private static void no(boolean is) {
        if (is) {
            throw new NoSuchElementException();
        }
    }

    private static void bad(boolean is) {
        if (is) {
            throw new IllegalArgumentException();
        }
    }

    private static void state(boolean is) {
        if (is) {
            throw new IllegalStateException();
        }
    }

    private static void right(boolean isMissing) {
        if (isMissing) {
            throw new UnsupportedOperationException();
        }
    }

    private static void index(boolean is) {
        if (is) {
            throw new IndexOutOfBoundsException();
        }
    }

    private boolean noUser(int user) {
        return user < 0 || user >= users.size();
    }

    private boolean noGroup(int group) {
        return group < 0 || group >= groups.size();
    }

    private boolean noFile(int file) {
        return file < 0 || file >= files.size();
    }

    private static boolean noPart(int part) {
        return part < 0 || part > 7;
    }

    private boolean noLeaves(int leaves) {
        return leaves < 0 || leaves > log.size();
    }

    private P1 part(int file, int part) {
        no(noFile(file));
        bad(noPart(part));
        P1 it = files.get(file).parts.get(part);
        no(it == null);
        return it;
    }

    // ---- the face ----

    public int addUser(int secret) {
        bad(secret < 0 || secret > 9999);
        state(users.size() == 6);
        users.add(new M(secret));
        return users.size() - 1;
    }

    public int addGroup(int owner, int quota) {
        no(noUser(owner));
        bad(quota < 1 || quota > 40);
        state(groups.size() == 5);
        G g = new G();
        g.owner = owner;
        g.quota = quota;
        groups.add(g);
        takeIn(groups.size() - 1, owner);
        return groups.size() - 1;
    }

    private void takeIn(int group, int user) {
        G g = groups.get(group);
        g.members.add(user);
        TreeSet<Integer> keys = g.keys.computeIfAbsent(user, u -> new TreeSet<>());
        for (int e = 0; e <= g.epoch; e++) {
            keys.add(e);
        }
        history.add(new int[] {'j', group, user});
    }

    public int join(int group, int user) {
        no(noGroup(group) || noUser(user));
        state(groups.get(group).members.contains(user) || log.size() >= 300);
        takeIn(group, user);
        log.add(mix(100 + group, user));
        return groups.get(group).members.size();
    }

    public int leave(int group, int user, boolean isAtOnce) {
        no(noGroup(group) || !groups.get(group).members.contains(user));
        G g = groups.get(group);
        bad(g.owner == user);
        state(log.size() >= 300);
        g.members.remove(user);
        g.epoch++;
        for (int member : g.members) {
            g.keys.get(member).add(g.epoch);
        }
        history.add(new int[] {'l', group, user});
        log.add(mix(200 + group, user));
        int anew = 0;
        for (int f = 0; isAtOnce && f < files.size(); f++) {
            F file = files.get(f);
            if (file.group == group && status(f) == 'o') {
                List<Integer> held = new ArrayList<>();
                file.parts.forEach((p, it) -> held.add(p));
                for (int p : held) {
                    P1 it = file.parts.get(p);
                    it.version = file.epochOfVersion.size();
                    it.cipher = seal(it.value, keyOfPart(f, it.version, p));
                    history.add(new int[] {'w', f, p});
                    anew++;
                }
                file.epochOfVersion.add(g.epoch);
                file.mark = markOf(f);
            }
        }
        return anew;
    }

    public boolean isMember(int group, int user) {
        no(noGroup(group) || noUser(user));
        return groups.get(group).members.contains(user);
    }

    public int epoch(int group) {
        no(noGroup(group));
        return groups.get(group).epoch;
    }

    public int known(int group, int user) {
        no(noGroup(group) || noUser(user));
        TreeSet<Integer> keys = groups.get(group).keys.get(user);
        return keys == null ? -1 : keys.last();
    }

    public int addFile(int group, int user) {
        no(noGroup(group) || noUser(user));
        right(!isMember(group, user));
        state(files.size() == 20);
        F f = new F();
        f.group = group;
        f.epochOfVersion.add(epoch(group));
        files.add(f);
        f.mark = markOf(files.size() - 1);
        return files.size() - 1;
    }

    private int markOf(int file) {
        int m = mix(6, file);
        for (Map.Entry<Integer, P1> e : files.get(file).parts.entrySet()) {
            m = mix(m, e.getValue().cipher ^ e.getKey());
        }
        return m;
    }

    private boolean isClosed(int user, int file, int part) {
        F f = files.get(file);
        boolean isNew = !f.parts.containsKey(part);
        return users.get(user).away || status(file) != 'o' || isNew && parts(f.group) >= groups.get(f.group).quota
                || log.size() >= 300;
    }

    private int put(int file, int part, int value) {
        F f = files.get(file);
        int present = epoch(f.group);
        if (f.epochOfVersion.get(f.epochOfVersion.size() - 1) != present) {
            f.epochOfVersion.add(present);
        }
        P1 it = f.parts.computeIfAbsent(part, p -> new P1());
        it.value = value;
        it.writes++;
        it.version = f.epochOfVersion.size() - 1;
        it.cipher = seal(value, keyOfPart(file, it.version, part));
        f.mark = markOf(file);
        history.add(new int[] {'w', file, part});
        log.add(mix(8 * file + part, it.cipher));
        return it.version;
    }

    public int write(int user, int file, int part, int value) {
        no(noUser(user) || noFile(file));
        bad(noPart(part));
        right(!isMember(files.get(file).group, user));
        state(isClosed(user, file, part));
        return put(file, part, value);
    }

    public int read(int user, int file, int part) {
        no(noUser(user));
        P1 it = part(file, part);
        state(status(file) != 'o');
        right(!canRead(user, file, part));
        return unseal(it.cipher, keyOfPart(file, it.version, part));
    }

    public boolean canRead(int user, int file, int part) {
        no(noUser(user));
        P1 it = part(file, part);
        F f = files.get(file);
        TreeSet<Integer> keys = groups.get(f.group).keys.get(user);
        return keys != null && keys.contains(f.epochOfVersion.get(it.version));
    }

    public boolean canReadByGrants(int user, int file, int part) {
        no(noUser(user));
        part(file, part);
        int group = files.get(file).group;
        boolean isIn = false;
        boolean can = false;
        for (int[] event : history) {
            if (event[0] == 'w' && event[1] == file && event[2] == part) {
                can = isIn;
            } else if (event[0] != 'w' && event[1] == group && event[2] == user) {
                isIn = event[0] == 'j';
                can = can || isIn;
            }
        }
        return can;
    }

    public int cipher(int file, int part) {
        return part(file, part).cipher;
    }

    public int version(int file, int part) {
        return part(file, part).version;
    }

    public int writes(int file, int part) {
        no(noFile(file));
        bad(noPart(part));
        P1 it = files.get(file).parts.get(part);
        return it == null ? 0 : it.writes;
    }

    public int mark(int file) {
        no(noFile(file));
        return files.get(file).mark;
    }

    public int spoil(int file, int part, int bits) {
        P1 it = part(file, part);
        it.cipher = it.cipher ^ bits;
        return it.cipher;
    }

    public char status(int file) {
        no(noFile(file));
        return files.get(file).thrown ? 'x' : files.get(file).mark != markOf(file) ? 's' : 'o';
    }

    public int throwAway(int user, int file) {
        no(noUser(user) || noFile(file));
        F f = files.get(file);
        right(groups.get(f.group).owner != user);
        state(f.thrown || log.size() >= 300);
        f.thrown = true;
        log.add(mix(300, file));
        return f.parts.size();
    }

    public int purge() {
        int dropped = 0;
        for (F f : files) {
            if (f.thrown) {
                dropped += f.parts.size();
                f.parts.clear();
            }
        }
        return dropped;
    }

    public int parts(int group) {
        no(noGroup(group));
        return files.stream().filter(f -> f.group == group).mapToInt(f -> f.parts.size()).sum();
    }

    // ---- words ----

    private static int token(int group, int epoch, int word) {
        return mix(mix(mix(2, group), epoch), word);
    }

    public int tell(int user, int file, int word) {
        no(noUser(user) || noFile(file));
        bad(word < 0 || word > 99);
        int group = files.get(file).group;
        right(!isMember(group, user));
        List<Integer> pair = List.of(token(group, epoch(group), word), file);
        state(tokens.size() == 60 && !tokens.contains(pair));
        tokens.add(pair);
        return tokens.size();
    }

    public int ask(int user, int group, int word) {
        no(noUser(user) || noGroup(group));
        bad(word < 0 || word > 99);
        right(known(group, user) == -1);
        TreeSet<Integer> told = new TreeSet<>();
        for (int e : groups.get(group).keys.get(user)) {
            int token = token(group, e, word);
            if (shownTokens.add(token)) {
                shownNew++;
            } else {
                shownRepeated++;
            }
            for (int f = 0; f < files.size(); f++) {
                if (tokens.contains(List.of(token, f))) {
                    told.add(f);
                }
            }
        }
        found = new ArrayList<>(told);
        shownFiles += found.size();
        questions++;
        return found.size();
    }

    public int foundAt(int index) {
        index(index < 0 || index >= found.size());
        return found.get(index);
    }

    public int shown(char what) {
        bad("nrf".indexOf(what) < 0);
        return what == 'n' ? shownNew : what == 'r' ? shownRepeated : shownFiles;
    }

    // ---- the log ----

    public int leaves() {
        return log.size();
    }

    public int leaf(int index) {
        index(index < 0 || index >= log.size());
        return log.get(index);
    }

    private static int rootOf(List<Integer> leaves) {
        if (leaves.isEmpty()) {
            return 0;
        }
        if (leaves.size() == 1) {
            return mix(8, leaves.get(0));
        }
        int k = Integer.highestOneBit(leaves.size() - 1);
        return mix(mix(9, rootOf(leaves.subList(0, k))), rootOf(leaves.subList(k, leaves.size())));
    }

    public int root(int leaves) {
        bad(noLeaves(leaves));
        return rootOf(log.subList(0, leaves));
    }

    private static List<Integer> proof(List<Integer> leaves, int index) {
        if (leaves.size() == 1) {
            return new ArrayList<>();
        }
        int k = Integer.highestOneBit(leaves.size() - 1);
        List<Integer> first = leaves.subList(0, k);
        List<Integer> others = leaves.subList(k, leaves.size());
        List<Integer> row = index < k ? proof(first, index) : proof(others, index - k);
        row.add(rootOf(index < k ? others : first));
        return row;
    }

    private List<Integer> neededProof(int leaves, int index) {
        bad(noLeaves(leaves));
        index(index < 0 || index >= leaves);
        return proof(log.subList(0, leaves), index);
    }

    public int proofLength(int leaves, int index) {
        return neededProof(leaves, index).size();
    }

    public int proofAt(int leaves, int index, int place) {
        List<Integer> row = neededProof(leaves, index);
        index(place < 0 || place >= row.size());
        return row.get(place);
    }

    private static List<Integer> prefix(int m, List<Integer> leaves, boolean isWhole) {
        int n = leaves.size();
        if (m == n) {
            return isWhole ? new ArrayList<>() : new ArrayList<>(List.of(rootOf(leaves)));
        }
        int k = Integer.highestOneBit(n - 1);
        List<Integer> row;
        if (m <= k) {
            row = prefix(m, leaves.subList(0, k), isWhole);
            row.add(rootOf(leaves.subList(k, n)));
        } else {
            row = prefix(m - k, leaves.subList(k, n), false);
            row.add(rootOf(leaves.subList(0, k)));
        }
        return row;
    }

    private List<Integer> neededPrefix(int first, int leaves) {
        bad(noLeaves(leaves) || first < 1 || first > leaves);
        return prefix(first, log.subList(0, leaves), true);
    }

    public int prefixLength(int first, int leaves) {
        return neededPrefix(first, leaves).size();
    }

    public int prefixAt(int first, int leaves, int place) {
        List<Integer> row = neededPrefix(first, leaves);
        index(place < 0 || place >= row.size());
        return row.get(place);
    }

    public int forget(int leaves) {
        bad(noLeaves(leaves));
        int forgotten = 0;
        while (log.size() > leaves) {
            log.remove(log.size() - 1);
            forgotten++;
        }
        return forgotten;
    }

    // ---- servers and clients ----

    private boolean isServed(M user) {
        return user.headLeaves <= log.size() && root(user.headLeaves) == user.headRoot;
    }

    public char show(int user, int leaves) {
        no(noUser(user));
        bad(noLeaves(leaves));
        M m = users.get(user);
        if (leaves >= m.headLeaves && isServed(m)) {
            m.headLeaves = leaves;
            m.headRoot = root(leaves);
            return 'k';
        }
        m.alarms++;
        return 'a';
    }

    public char meet(int user, int other) {
        no(noUser(user) || noUser(other));
        bad(user == other);
        M a = users.get(user);
        M b = users.get(other);
        if (a.headLeaves == b.headLeaves && a.headRoot == b.headRoot || isServed(a) && isServed(b)) {
            return 'k';
        }
        a.alarms++;
        b.alarms++;
        return 'a';
    }

    public int head(int user) {
        no(noUser(user));
        return users.get(user).headLeaves;
    }

    public int alarms(int user) {
        no(noUser(user));
        return users.get(user).alarms;
    }

    // ---- shares ----

    public int split(int user, int many, int needed) {
        no(noUser(user));
        bad(many < 1 || many > 8 || needed < 1 || needed > many);
        M m = users.get(user);
        int before = m.needed;
        m.many = many;
        m.needed = needed;
        return before;
    }

    public int share(int user, int place) {
        no(noUser(user));
        M m = users.get(user);
        state(m.many == 0);
        index(place < 1 || place > m.many);
        BigInteger sum = BigInteger.valueOf(m.secret);
        for (int j = 1; j < m.needed; j++) {
            BigInteger coefficient = BigInteger.valueOf(mix(mix(3, user), j)).mod(P);
            sum = sum.add(coefficient.multiply(BigInteger.valueOf(place).pow(j)));
        }
        return sum.mod(P).intValue();
    }

    public int collect(int place, int share) {
        bad(place < 1 || place > 8 || share < 0 || share > 65520);
        collected.put(place, share);
        return collected.size();
    }

    /** By Neville's rows: two neighbours of a degree give one of the next degree. */
    public int recovered() {
        state(collected.isEmpty());
        List<Integer> places = new ArrayList<>(collected.keySet());
        BigInteger[] row = new BigInteger[places.size()];
        for (int i = 0; i < row.length; i++) {
            row[i] = BigInteger.valueOf(collected.get(places.get(i)));
        }
        for (int degree = 1; degree < row.length; degree++) {
            for (int i = 0; i + degree < row.length; i++) {
                BigInteger low = BigInteger.valueOf(places.get(i));
                BigInteger high = BigInteger.valueOf(places.get(i + degree));
                BigInteger above = high.multiply(row[i]).subtract(low.multiply(row[i + 1]));
                row[i] = above.multiply(high.subtract(low).modInverse(P)).mod(P);
            }
        }
        return row[0].intValue();
    }

    public int drop() {
        int before = collected.size();
        collected.clear();
        return before;
    }

    // ---- away ----

    public int goAway(int user) {
        no(noUser(user));
        state(users.get(user).away);
        users.get(user).away = true;
        return (int) users.stream().filter(m -> m.away).count();
    }

    public int draft(int user, int file, int part, int value) {
        no(noUser(user) || noFile(file));
        bad(noPart(part));
        M m = users.get(user);
        int place = 8 * file + part;
        state(!m.away || m.drafts.size() == 10 && !m.drafts.containsKey(place));
        m.drafts.remove(place);
        m.drafts.put(place, new int[] {value, writes(file, part)});
        return m.drafts.size();
    }

    public int comeBack(int user) {
        no(noUser(user));
        M m = users.get(user);
        state(!m.away);
        m.away = false;
        conflictList = new ArrayList<>();
        int written = 0;
        for (Map.Entry<Integer, int[]> e : m.drafts.entrySet()) {
            int file = e.getKey() / 8;
            int part = e.getKey() % 8;
            boolean may = isMember(files.get(file).group, user) && !isClosed(user, file, part);
            if (may && writes(file, part) == e.getValue()[1]) {
                put(file, part, e.getValue()[0]);
                written++;
            } else {
                conflictList.add(e.getKey());
            }
        }
        m.drafts.clear();
        return written;
    }

    public int conflicts() {
        return conflictList.size();
    }

    public int conflictAt(int index) {
        index(index < 0 || index >= conflictList.size());
        return conflictList.get(index);
    }

    // ---- quotas, means and soundness ----

    public float load(int group) {
        return (float) parts(group) / (float) groups.get(group).quota;
    }

    public int loadBits(int group) {
        return Float.floatToIntBits(load(group));
    }

    public double meanTold() {
        if (questions == 0) {
            throw new ArithmeticException();
        }
        return (double) shownFiles / (double) questions;
    }

    public long meanToldBits() {
        return Double.doubleToLongBits(meanTold());
    }

    public boolean isSound() {
        for (int f = 0; f < files.size(); f++) {
            for (Map.Entry<Integer, P1> e : files.get(f).parts.entrySet()) {
                for (int u = 0; u < users.size(); u++) {
                    if (canRead(u, f, e.getKey()) != canReadByGrants(u, f, e.getKey())) {
                        return false;
                    }
                }
                P1 it = e.getValue();
                if (status(f) == 'o' && unseal(it.cipher, keyOfPart(f, it.version, e.getKey())) != it.value) {
                    return false;
                }
            }
        }
        return true;
    }
}
