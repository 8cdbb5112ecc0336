import java.util.NoSuchElementException;

/** A garden of files that a server keeps and cannot read; ../shared/DOC.md tells its promises. */
public final class Vaultgarden {
    private static final int MOST_USERS = 6;
    private static final int MOST_GROUPS = 5;
    private static final int MOST_FILES = 20;
    private static final int PARTS = 8;
    private static final int HIGHEST_SECRET = 9999;
    private static final int HIGHEST_QUOTA = 40;
    private static final int HIGHEST_WORD = 99;
    private static final int MOST_SHARES = 8;
    private static final int MOST_DRAFTS = 10;

    private final User[] users = new User[MOST_USERS];
    private final Group[] groups = new Group[MOST_GROUPS];
    private final KeptFile[] files = new KeptFile[MOST_FILES];
    private final Log log = new Log();
    private final Grants grants = new Grants();
    private final Words words = new Words();
    private final Shares collected = new Shares();
    private final int[] conflictPlaces = new int[MOST_DRAFTS];
    private int userCount;
    private int groupCount;
    private int fileCount;
    private int conflictCount;

    public Vaultgarden() {
    }

    // ---- users and groups ----

    public int addUser(int secret) throws IllegalArgumentException, IllegalStateException {
        if (secret < 0 || secret > HIGHEST_SECRET) {
            throw new IllegalArgumentException("the secret is out of range");
        }
        if (userCount < 0 || userCount >= users.length) {
            throw new IllegalStateException("there are 6 users");
        }
        users[userCount] = new User(userCount, secret);
        userCount++;
        return userCount - 1;
    }

    public int addGroup(int owner, int quota)
            throws NoSuchElementException, IllegalArgumentException, IllegalStateException {
        needUser(owner);
        if (quota < 1 || quota > HIGHEST_QUOTA) {
            throw new IllegalArgumentException("the quota is out of range");
        }
        if (groupCount < 0 || groupCount >= groups.length) {
            throw new IllegalStateException("there are 5 groups");
        }
        Group added = new Group(groupCount, owner, quota);
        groups[groupCount] = added;
        groupCount++;
        added.takeIn(owner);
        grants.noteJoined(added.number, owner);
        return added.number;
    }

    public int join(int group, int user) throws NoSuchElementException, IllegalStateException {
        Group joined = needGroup(group);
        needUser(user);
        if (joined.hasMember(user)) {
            throw new IllegalStateException("the user is a member");
        }
        needRoomForComingAndGoing();
        joined.takeIn(user);
        grants.noteJoined(group, user);
        log.append(Ciphers.mix(100 + group, user));
        return joined.memberCount;
    }

    public int leave(int group, int user, boolean isAtOnce)
            throws NoSuchElementException, IllegalArgumentException, IllegalStateException {
        Group left = needGroup(group);
        if (!left.hasMember(user)) {
            throw new NoSuchElementException("the user is no member");
        }
        if (user == left.owner) {
            throw new IllegalArgumentException("the user is the owner");
        }
        needRoomForComingAndGoing();
        left.letGo(user);
        grants.noteLeft(group, user);
        log.append(Ciphers.mix(200 + group, user));
        return isAtOnce ? turnFilesOf(left) : 0;
    }

    public boolean isMember(int group, int user) throws NoSuchElementException {
        Group asked = needGroup(group);
        needUser(user);
        return asked.hasMember(user);
    }

    public int epoch(int group) throws NoSuchElementException {
        return needGroup(group).epoch;
    }

    public int known(int group, int user) throws NoSuchElementException {
        Group asked = needGroup(group);
        needUser(user);
        return asked.latestKnownTo(user);
    }

    // ---- files ----

    public int addFile(int group, int user)
            throws NoSuchElementException, UnsupportedOperationException, IllegalStateException {
        Group home = needGroup(group);
        needUser(user);
        needMember(home, user);
        if (fileCount < 0 || fileCount >= files.length) {
            throw new IllegalStateException("there are 20 files");
        }
        files[fileCount] = new KeptFile(fileCount, home);
        fileCount++;
        return fileCount - 1;
    }

    public int write(int user, int file, int part, int value)
            throws NoSuchElementException, IllegalArgumentException, UnsupportedOperationException,
            IllegalStateException {
        User writer = needUser(user);
        KeptFile target = needFile(file);
        needPartNumber(part);
        needMember(target.group, user);
        if (writer.isAway || !isOpenForWriting(target, part)) {
            throw new IllegalStateException("the part cannot be written now");
        }
        return put(target, part, value);
    }

    public int read(int user, int file, int part)
            throws NoSuchElementException, IllegalArgumentException, IllegalStateException,
            UnsupportedOperationException {
        needUser(user);
        KeptFile target = needFile(file);
        Part wanted = needPart(file, part);
        if (target.isThrownAway || target.isSpoiled()) {
            throw new IllegalStateException("the file is thrown away or spoiled");
        }
        if (!isKeyKnown(user, target, wanted)) {
            throw new UnsupportedOperationException("the user cannot read it");
        }
        return wanted.opened();
    }

    public boolean canRead(int user, int file, int part) throws NoSuchElementException, IllegalArgumentException {
        needUser(user);
        KeptFile target = needFile(file);
        return isKeyKnown(user, target, needPart(file, part));
    }

    public boolean canReadByGrants(int user, int file, int part)
            throws NoSuchElementException, IllegalArgumentException {
        needUser(user);
        KeptFile target = needFile(file);
        Part wanted = needPart(file, part);
        grants.replay();
        return grants.isShared(target.group.number, user, wanted.moment);
    }

    public int cipher(int file, int part) throws NoSuchElementException, IllegalArgumentException {
        return needPart(file, part).cipher;
    }

    public int version(int file, int part) throws NoSuchElementException, IllegalArgumentException {
        return needPart(file, part).version;
    }

    public int writes(int file, int part) throws NoSuchElementException, IllegalArgumentException {
        KeptFile asked = needFile(file);
        needPartNumber(part);
        return asked.writesOf(part);
    }

    public int mark(int file) throws NoSuchElementException {
        return needFile(file).keptMark;
    }

    public int spoil(int file, int part, int bits) throws NoSuchElementException, IllegalArgumentException {
        Part spoiled = needPart(file, part);
        spoiled.cipher ^= bits;
        return spoiled.cipher;
    }

    public char status(int file) throws NoSuchElementException {
        KeptFile asked = needFile(file);
        if (asked.isThrownAway) {
            return 'x';
        }
        return asked.isSpoiled() ? 's' : 'o';
    }

    public int throwAway(int user, int file)
            throws NoSuchElementException, UnsupportedOperationException, IllegalStateException {
        needUser(user);
        KeptFile thrown = needFile(file);
        if (user != thrown.group.owner) {
            throw new UnsupportedOperationException("the user is not the owner");
        }
        if (thrown.isThrownAway || log.isFull()) {
            throw new IllegalStateException("the file is thrown away, or the log is full");
        }
        thrown.isThrownAway = true;
        log.append(Ciphers.mix(300, file));
        return thrown.partCount();
    }

    public int purge() {
        int dropped = 0;
        for (int i = 0; i < fileCount && i < files.length; i++) {
            KeptFile file = files[i];
            if (file != null && file.isThrownAway) {
                dropped += file.dropParts();
            }
        }
        return dropped;
    }

    public int parts(int group) throws NoSuchElementException {
        return partsOf(needGroup(group));
    }

    // ---- words ----

    public int tell(int user, int file, int word)
            throws NoSuchElementException, IllegalArgumentException, UnsupportedOperationException,
            IllegalStateException {
        needUser(user);
        KeptFile about = needFile(file);
        needWord(word);
        needMember(about.group, user);
        int token = about.group.tokenOf(about.group.epoch, word);
        if (!words.keeps(token, file)) {
            if (words.isFull()) {
                throw new IllegalStateException("60 tokens are kept");
            }
            words.keep(token, file);
        }
        return words.keptCount();
    }

    public int ask(int user, int group, int word)
            throws NoSuchElementException, IllegalArgumentException, UnsupportedOperationException {
        needUser(user);
        Group asked = needGroup(group);
        needWord(word);
        int latest = asked.latestKnownTo(user);
        if (latest < 0) {
            throw new UnsupportedOperationException("the user knows no key of the group");
        }
        words.startQuestion();
        for (int epoch = 0; epoch <= latest && epoch <= Grants.MOST_EVENTS; epoch++) {
            words.takeToken(asked.tokenOf(epoch, word));
        }
        return words.endQuestion();
    }

    public int foundAt(int index) throws IndexOutOfBoundsException {
        if (index < 0 || index >= words.foundCount()) {
            throw new IndexOutOfBoundsException("there is no such file");
        }
        return words.foundFile(index);
    }

    public int shown(char what) throws IllegalArgumentException {
        if (what == 'n') {
            return words.newTokens;
        }
        if (what == 'r') {
            return words.repeatedTokens;
        }
        if (what == 'f') {
            return words.toldFiles;
        }
        throw new IllegalArgumentException("there is no such letter");
    }

    // ---- the log ----

    public int leaves() {
        return log.count();
    }

    public int leaf(int index) throws IndexOutOfBoundsException {
        if (index < 0 || index >= log.count()) {
            throw new IndexOutOfBoundsException("there is no such leaf");
        }
        return log.leafAt(index);
    }

    public int root(int leaves) throws IllegalArgumentException {
        needLeaves(leaves);
        return log.rootOf(leaves);
    }

    public int proofLength(int leaves, int index) throws IllegalArgumentException, IndexOutOfBoundsException {
        needLeafAmong(leaves, index);
        return log.findProof(leaves, index);
    }

    public int proofAt(int leaves, int index, int place)
            throws IllegalArgumentException, IndexOutOfBoundsException {
        needLeafAmong(leaves, index);
        return proofNumber(log.findProof(leaves, index), place);
    }

    public int prefixLength(int first, int leaves) throws IllegalArgumentException {
        needPrefix(first, leaves);
        return log.findPrefixProof(first, leaves);
    }

    public int prefixAt(int first, int leaves, int place)
            throws IllegalArgumentException, IndexOutOfBoundsException {
        needPrefix(first, leaves);
        return proofNumber(log.findPrefixProof(first, leaves), place);
    }

    public int forget(int leaves) throws IllegalArgumentException {
        needLeaves(leaves);
        return log.cutTo(leaves);
    }

    // ---- servers and clients ----

    public char show(int user, int leaves) throws NoSuchElementException, IllegalArgumentException {
        User client = needUser(user);
        needLeaves(leaves);
        if (leaves < client.headLeaves || !isHeadInLog(client)) {
            client.alarmCount++;
            return 'a';
        }
        client.headLeaves = leaves;
        client.headRoot = log.rootOf(leaves);
        return 'k';
    }

    public char meet(int user, int other) throws NoSuchElementException, IllegalArgumentException {
        User first = needUser(user);
        User second = needUser(other);
        if (user == other) {
            throw new IllegalArgumentException("both are the same");
        }
        boolean isSameHead = first.headLeaves == second.headLeaves && first.headRoot == second.headRoot;
        if (isSameHead || isHeadInLog(first) && isHeadInLog(second)) {
            return 'k';
        }
        first.alarmCount++;
        second.alarmCount++;
        return 'a';
    }

    public int head(int user) throws NoSuchElementException {
        return needUser(user).headLeaves;
    }

    public int alarms(int user) throws NoSuchElementException {
        return needUser(user).alarmCount;
    }

    // ---- shares ----

    public int split(int user, int many, int needed) throws NoSuchElementException, IllegalArgumentException {
        User owner = needUser(user);
        if (many < 1 || many > MOST_SHARES || needed < 1 || needed > many) {
            throw new IllegalArgumentException("a number is out of range");
        }
        int neededBefore = owner.sharesNeeded;
        owner.shareCount = many;
        owner.sharesNeeded = needed;
        return neededBefore;
    }

    public int share(int user, int place)
            throws NoSuchElementException, IllegalStateException, IndexOutOfBoundsException {
        User owner = needUser(user);
        if (owner.shareCount == 0) {
            throw new IllegalStateException("the secret is not split");
        }
        if (place < 1 || place > owner.shareCount) {
            throw new IndexOutOfBoundsException("there is no such share");
        }
        return Shares.shareOf(owner.secret, user, owner.sharesNeeded, place);
    }

    public int collect(int place, int share) throws IllegalArgumentException {
        if (place < 1 || place > MOST_SHARES || share < 0 || share >= Shares.MODULUS) {
            throw new IllegalArgumentException("a number is out of range");
        }
        collected.keep(place, share);
        return collected.keptCount();
    }

    public int recovered() throws IllegalStateException {
        if (collected.keptCount() == 0) {
            throw new IllegalStateException("no share is collected");
        }
        return collected.valueAtZero();
    }

    public int drop() {
        return collected.clear();
    }

    // ---- away ----

    public int goAway(int user) throws NoSuchElementException, IllegalStateException {
        User leaving = needUser(user);
        if (leaving.isAway) {
            throw new IllegalStateException("the user is away");
        }
        leaving.isAway = true;
        return usersAway();
    }

    public int draft(int user, int file, int part, int value)
            throws NoSuchElementException, IllegalArgumentException, IllegalStateException {
        User author = needUser(user);
        KeptFile about = needFile(file);
        needPartNumber(part);
        int place = PARTS * file + part;
        if (!author.isAway || !author.drafts.hasRoomFor(place)) {
            throw new IllegalStateException("the user is not away, or has 10 drafts for other parts");
        }
        author.drafts.keep(place, value, about.writesOf(part));
        return author.drafts.count();
    }

    public int comeBack(int user) throws NoSuchElementException, IllegalStateException {
        User back = needUser(user);
        if (!back.isAway) {
            throw new IllegalStateException("the user is not away");
        }
        back.isAway = false;
        conflictCount = 0;
        int written = 0;
        int drafted = back.drafts.count();
        for (int i = 0; i < drafted && i < MOST_DRAFTS; i++) {
            if (becomesWrite(back, i)) {
                written++;
            } else {
                noteConflict(back.drafts.placeAt(i));
            }
        }
        back.drafts.clear();
        return written;
    }

    public int conflicts() {
        return conflictCount;
    }

    public int conflictAt(int index) throws IndexOutOfBoundsException {
        if (index < 0 || index >= conflictCount || index >= conflictPlaces.length) {
            throw new IndexOutOfBoundsException("there is no such conflict");
        }
        return conflictPlaces[index];
    }

    // ---- quotas, means and soundness ----

    public float load(int group) throws NoSuchElementException {
        return usedShare(needGroup(group));
    }

    public int loadBits(int group) throws NoSuchElementException {
        return bitsOfFloat(usedShare(needGroup(group)));
    }

    public double meanTold() throws ArithmeticException {
        if (words.questions == 0) {
            throw new ArithmeticException("there were no questions");
        }
        return words.meanFiles();
    }

    public long meanToldBits() throws ArithmeticException {
        if (words.questions == 0) {
            throw new ArithmeticException("there were no questions");
        }
        return bitsOfDouble(words.meanFiles());
    }

    public boolean isSound() {
        grants.replay();
        for (int i = 0; i < fileCount && i < files.length; i++) {
            KeptFile file = files[i];
            if (file != null && !isFileSound(file)) {
                return false;
            }
        }
        return true;
    }

    // ---- what a call needs ----

    private User needUser(int user) {
        if (user < 0 || user >= userCount || user >= users.length) {
            throw new NoSuchElementException("there is no such user");
        }
        User found = users[user];
        if (found == null) {
            throw new NoSuchElementException("there is no such user");
        }
        return found;
    }

    private Group needGroup(int group) {
        if (group < 0 || group >= groupCount || group >= groups.length) {
            throw new NoSuchElementException("there is no such group");
        }
        Group found = groups[group];
        if (found == null) {
            throw new NoSuchElementException("there is no such group");
        }
        return found;
    }

    private KeptFile needFile(int file) {
        if (file < 0 || file >= fileCount || file >= files.length) {
            throw new NoSuchElementException("there is no such file");
        }
        KeptFile found = files[file];
        if (found == null) {
            throw new NoSuchElementException("there is no such file");
        }
        return found;
    }

    private void needPartNumber(int part) {
        if (part < 0 || part >= PARTS) {
            throw new IllegalArgumentException("there is no such part");
        }
    }

    private Part needPart(int file, int part) {
        KeptFile holder = needFile(file);
        needPartNumber(part);
        Part found = holder.partAt(part);
        if (found == null) {
            throw new NoSuchElementException("the part is not there");
        }
        return found;
    }

    private void needMember(Group group, int user) {
        if (!group.hasMember(user)) {
            throw new UnsupportedOperationException("the user is no member");
        }
    }

    private void needWord(int word) {
        if (word < 0 || word > HIGHEST_WORD) {
            throw new IllegalArgumentException("there is no such word");
        }
    }

    // The grants are full only behind the last call that the document speaks of.
    private void needRoomForComingAndGoing() {
        if (log.isFull() || grants.isFull()) {
            throw new IllegalStateException("there are 300 leaves");
        }
    }

    private void needLeaves(int leaves) {
        if (leaves < 0 || leaves > log.count()) {
            throw new IllegalArgumentException("there are not so many leaves");
        }
    }

    private void needLeafAmong(int leaves, int index) {
        needLeaves(leaves);
        if (index < 0 || index >= leaves) {
            throw new IndexOutOfBoundsException("the leaf is not among them");
        }
    }

    private void needPrefix(int first, int leaves) {
        needLeaves(leaves);
        if (first < 1 || first > leaves) {
            throw new IllegalArgumentException("the fewer ones are none or more");
        }
    }

    // ---- how it is done ----

    private boolean isKeyKnown(int user, KeptFile file, Part part) {
        return part.epoch <= file.group.latestKnownTo(user);
    }

    private int turnFilesOf(Group group) {
        int anew = 0;
        for (int i = 0; i < fileCount && i < files.length; i++) {
            KeptFile file = files[i];
            if (file != null && file.group.number == group.number && !file.isThrownAway && !file.isSpoiled()) {
                anew += file.writeAllAnew(grants.moment());
            }
        }
        return anew;
    }

    private int partsOf(Group group) {
        int found = 0;
        for (int i = 0; i < fileCount && i < files.length; i++) {
            KeptFile file = files[i];
            if (file != null && file.group.number == group.number) {
                found += file.partCount();
            }
        }
        return found;
    }

    private boolean isOpenForWriting(KeptFile file, int part) {
        if (file.isThrownAway || file.isSpoiled() || log.isFull()) {
            return false;
        }
        return file.partAt(part) != null || partsOf(file.group) < file.group.quota;
    }

    private int put(KeptFile file, int part, int value) {
        int cipher = file.put(part, value, grants.moment());
        log.append(Ciphers.mix(PARTS * file.number + part, cipher));
        return file.version;
    }

    private boolean isHeadInLog(User client) {
        return client.headLeaves <= log.count() && log.rootOf(client.headLeaves) == client.headRoot;
    }

    private int proofNumber(int length, int place) {
        if (place < 0 || place >= length) {
            throw new IndexOutOfBoundsException("there is no such place");
        }
        return log.rowAt(place);
    }

    private int usersAway() {
        int away = 0;
        for (int i = 0; i < userCount && i < users.length; i++) {
            User user = users[i];
            if (user != null && user.isAway) {
                away++;
            }
        }
        return away;
    }

    private boolean becomesWrite(User author, int index) {
        int place = author.drafts.placeAt(index);
        int part = place % PARTS;
        KeptFile file = needFile(place / PARTS);
        if (!file.group.hasMember(author.number) || !isOpenForWriting(file, part)
                || file.writesOf(part) != author.drafts.writesAt(index)) {
            return false;
        }
        put(file, part, author.drafts.valueAt(index));
        return true;
    }

    private void noteConflict(int place) {
        if (conflictCount >= 0 && conflictCount < conflictPlaces.length) {
            conflictPlaces[conflictCount] = place;
            conflictCount++;
        }
    }

    private float usedShare(Group group) {
        return group.quota > 0 ? (float) partsOf(group) / (float) group.quota : 0f;
    }

    private boolean isFileSound(KeptFile file) {
        boolean isReadable = !file.isThrownAway && !file.isSpoiled();
        for (int i = 0; i < PARTS; i++) {
            Part part = file.partAt(i);
            if (part != null) {
                if (isReadable && part.opened() != part.value) {
                    return false;
                }
                if (!doBothWaysAgree(file, part)) {
                    return false;
                }
            }
        }
        return true;
    }

    private boolean doBothWaysAgree(KeptFile file, Part part) {
        for (int user = 0; user < userCount; user++) {
            boolean isShared = grants.isShared(file.group.number, user, part.moment);
            if (isKeyKnown(user, file, part) != isShared) {
                return false;
            }
        }
        return true;
    }

    // Doubling and halving are exact, so that the fraction loses nothing on its way into an int.
    private static int bitsOfFloat(float value) {
        if (!(value > 0f)) {
            return 0;
        }
        float rest = value;
        int exponent = 127;
        for (int step = 0; step < 127 && rest >= 2f; step++) {
            rest = rest / 2f;
            exponent++;
        }
        for (int step = 0; step < 126 && rest < 1f; step++) {
            rest = rest * 2f;
            exponent--;
        }
        int fraction = (int) ((rest - 1f) * 8388608f);
        return (exponent << 23) | fraction;
    }

    private static long bitsOfDouble(double value) {
        if (!(value > 0.0)) {
            return 0L;
        }
        double rest = value;
        long exponent = 1023L;
        for (int step = 0; step < 1023 && rest >= 2.0; step++) {
            rest = rest / 2.0;
            exponent++;
        }
        for (int step = 0; step < 1022 && rest < 1.0; step++) {
            rest = rest * 2.0;
            exponent--;
        }
        long fraction = (long) ((rest - 1.0) * 4503599627370496.0);
        return (exponent << 52) | fraction;
    }

    private static final class Ciphers {
        private static final int ROUNDS = 4;
        private static final int STEP = -1640531527;
        // 5 times this is 1 in ints, so that multiplying by it undoes the 5.
        private static final int INVERSE_OF_5 = -858993459;

        static int seal(int value, int key) {
            int x = value;
            for (int r = 0; r < ROUNDS; r++) {
                x ^= key + r * STEP;
                x = (x << 5) | (x >>> 27);
                x = 5 * x + 3;
            }
            return x;
        }

        static int unseal(int cipher, int key) {
            int x = cipher;
            for (int r = ROUNDS - 1; r >= 0; r--) {
                x = (x - 3) * INVERSE_OF_5;
                x = (x >>> 5) | (x << 27);
                x ^= key + r * STEP;
            }
            return x;
        }

        static int mix(int a, int b) {
            return seal(a, b) ^ a;
        }
    }

    private static final class User {
        final int number;
        final int secret;
        final Drafts drafts = new Drafts();
        boolean isAway;
        int headLeaves;
        int headRoot;
        int alarmCount;
        int shareCount;
        int sharesNeeded;

        User(int number, int secret) {
            this.number = number;
            this.secret = secret;
        }
    }

    private static final class Drafts {
        private final int[] places = new int[MOST_DRAFTS];
        private final int[] values = new int[MOST_DRAFTS];
        private final int[] writeCounts = new int[MOST_DRAFTS];
        private int count;

        int count() {
            return count;
        }

        boolean hasRoomFor(int place) {
            return count < MOST_DRAFTS || indexOf(place) >= 0;
        }

        void keep(int place, int value, int writeCount) {
            removeAt(indexOf(place));
            if (count >= 0 && count < places.length && count < values.length && count < writeCounts.length) {
                places[count] = place;
                values[count] = value;
                writeCounts[count] = writeCount;
                count++;
            }
        }

        int placeAt(int index) {
            return index >= 0 && index < places.length ? places[index] : 0;
        }

        int valueAt(int index) {
            return index >= 0 && index < values.length ? values[index] : 0;
        }

        int writesAt(int index) {
            return index >= 0 && index < writeCounts.length ? writeCounts[index] : 0;
        }

        void clear() {
            count = 0;
        }

        private int indexOf(int place) {
            for (int i = 0; i < count && i < places.length; i++) {
                if (places[i] == place) {
                    return i;
                }
            }
            return -1;
        }

        private void removeAt(int index) {
            if (index < 0 || index >= count) {
                return;
            }
            for (int i = index; i + 1 < count; i++) {
                takeNext(i);
            }
            count--;
        }

        private void takeNext(int index) {
            if (index >= 0 && index < places.length - 1 && index < values.length - 1
                    && index < writeCounts.length - 1) {
                places[index] = places[index + 1];
                values[index] = values[index + 1];
                writeCounts[index] = writeCounts[index + 1];
            }
        }
    }

    private static final class Group {
        final int number;
        final int owner;
        final int quota;
        final int keySeed;
        int epoch;
        int memberCount;
        private final boolean[] members = new boolean[MOST_USERS];
        // The count of epochs that a former member knows, so that 0 at first means none.
        private final int[] epochsKept = new int[MOST_USERS];

        Group(int number, int owner, int quota) {
            this.number = number;
            this.owner = owner;
            this.quota = quota;
            this.keySeed = Ciphers.mix(2, number);
        }

        boolean hasMember(int user) {
            return user >= 0 && user < members.length && members[user];
        }

        void takeIn(int user) {
            if (user >= 0 && user < members.length) {
                members[user] = true;
                memberCount++;
            }
        }

        void letGo(int user) {
            if (user >= 0 && user < members.length && user < epochsKept.length) {
                members[user] = false;
                memberCount--;
                epochsKept[user] = epoch + 1;
                epoch++;
            }
        }

        int latestKnownTo(int user) {
            if (hasMember(user)) {
                return epoch;
            }
            return user >= 0 && user < epochsKept.length ? epochsKept[user] - 1 : -1;
        }

        int tokenOf(int ofEpoch, int word) {
            return Ciphers.mix(Ciphers.mix(keySeed, ofEpoch), word);
        }
    }

    private static final class Part {
        final int number;
        // Kept beside the cipher, because a spoiled cipher can have the mark of the sound one.
        int value;
        int cipher;
        int key;
        int version;
        int epoch;
        int writeCount;
        int moment;

        Part(int number) {
            this.number = number;
        }

        int opened() {
            return Ciphers.unseal(cipher, key);
        }
    }

    private static final class KeptFile {
        final int number;
        final Group group;
        int version;
        int epoch;
        int keptMark;
        boolean isThrownAway;
        private final int emptyMark;
        private int versionKey;
        private final Part[] parts = new Part[PARTS];

        KeptFile(int number, Group group) {
            this.number = number;
            this.group = group;
            this.epoch = group.epoch;
            this.emptyMark = Ciphers.mix(6, number);
            this.keptMark = emptyMark;
            this.versionKey = Ciphers.mix(Ciphers.mix(4, number), version);
        }

        Part partAt(int part) {
            return part >= 0 && part < parts.length ? parts[part] : null;
        }

        int writesOf(int part) {
            Part found = partAt(part);
            return found == null ? 0 : found.writeCount;
        }

        int partCount() {
            int found = 0;
            for (int i = 0; i < parts.length; i++) {
                if (parts[i] != null) {
                    found++;
                }
            }
            return found;
        }

        boolean isSpoiled() {
            return keptMark != markOfParts();
        }

        // Answers the cipher of the part.
        int put(int part, int value, int moment) {
            if (part < 0 || part >= parts.length) {
                return 0;
            }
            if (epoch != group.epoch) {
                turnKey();
            }
            Part target = parts[part];
            if (target == null) {
                target = new Part(part);
                parts[part] = target;
            }
            target.value = value;
            target.writeCount++;
            sealPart(target, moment);
            keptMark = markOfParts();
            return target.cipher;
        }

        int writeAllAnew(int moment) {
            turnKey();
            int anew = 0;
            for (int i = 0; i < parts.length; i++) {
                Part part = parts[i];
                if (part != null) {
                    sealPart(part, moment);
                    anew++;
                }
            }
            keptMark = markOfParts();
            return anew;
        }

        int dropParts() {
            int dropped = partCount();
            for (int i = 0; i < parts.length; i++) {
                parts[i] = null;
            }
            return dropped;
        }

        private void turnKey() {
            version++;
            epoch = group.epoch;
            versionKey = Ciphers.mix(Ciphers.mix(4, number), version);
        }

        private void sealPart(Part part, int moment) {
            part.version = version;
            part.epoch = epoch;
            part.moment = moment;
            part.key = Ciphers.mix(versionKey, part.number);
            part.cipher = Ciphers.seal(part.value, part.key);
        }

        private int markOfParts() {
            int found = emptyMark;
            for (int i = 0; i < parts.length; i++) {
                Part part = parts[i];
                if (part != null) {
                    found = Ciphers.mix(found, part.cipher ^ i);
                }
            }
            return found;
        }
    }

    /** Who joined and left, in their order; a moment is how many of these events were before it. */
    private static final class Grants {
        // One event for each of the 512 calls, and the owners.
        static final int MOST_EVENTS = 512 + MOST_GROUPS;
        private static final int WITHOUT_END = 2147483647;

        private final int[] places = new int[MOST_EVENTS];
        private final boolean[] isJoining = new boolean[MOST_EVENTS];
        private final int[] sharedUntil = new int[MOST_GROUPS * MOST_USERS];
        private int count;

        boolean isFull() {
            return count >= MOST_EVENTS;
        }

        int moment() {
            return count;
        }

        void noteJoined(int group, int user) {
            note(group, user, true);
        }

        void noteLeft(int group, int user) {
            note(group, user, false);
        }

        // For each user and group: the moment at which their sharing ended, 0 if it never began.
        void replay() {
            for (int i = 0; i < sharedUntil.length; i++) {
                sharedUntil[i] = 0;
            }
            for (int i = 0; i < count && i < places.length && i < isJoining.length; i++) {
                int place = places[i];
                if (place >= 0 && place < sharedUntil.length) {
                    sharedUntil[place] = isJoining[i] ? WITHOUT_END : i + 1;
                }
            }
        }

        boolean isShared(int group, int user, int moment) {
            int place = group * MOST_USERS + user;
            return place >= 0 && place < sharedUntil.length && moment < sharedUntil[place];
        }

        private void note(int group, int user, boolean isJoined) {
            if (count >= 0 && count < places.length && count < isJoining.length) {
                places[count] = group * MOST_USERS + user;
                isJoining[count] = isJoined;
                count++;
            }
        }
    }

    private static final class Words {
        private static final int MOST_KEPT = 60;

        int newTokens;
        int repeatedTokens;
        int toldFiles;
        int questions;
        private final int[] keptTokens = new int[MOST_KEPT];
        private final int[] keptFiles = new int[MOST_KEPT];
        private final TokenSet shownTokens = new TokenSet();
        private final boolean[] isTold = new boolean[MOST_FILES];
        private final int[] found = new int[MOST_FILES];
        private int keptCount;
        private int foundCount;

        int keptCount() {
            return keptCount;
        }

        boolean isFull() {
            return keptCount >= MOST_KEPT;
        }

        boolean keeps(int token, int file) {
            for (int i = 0; i < keptCount && i < keptTokens.length && i < keptFiles.length; i++) {
                if (keptTokens[i] == token && keptFiles[i] == file) {
                    return true;
                }
            }
            return false;
        }

        void keep(int token, int file) {
            if (keptCount >= 0 && keptCount < keptTokens.length && keptCount < keptFiles.length) {
                keptTokens[keptCount] = token;
                keptFiles[keptCount] = file;
                keptCount++;
            }
        }

        void startQuestion() {
            for (int i = 0; i < isTold.length; i++) {
                isTold[i] = false;
            }
        }

        void takeToken(int token) {
            if (shownTokens.isNew(token)) {
                newTokens++;
            } else {
                repeatedTokens++;
            }
            for (int i = 0; i < keptCount && i < keptTokens.length && i < keptFiles.length; i++) {
                int file = keptFiles[i];
                if (keptTokens[i] == token && file >= 0 && file < isTold.length) {
                    isTold[file] = true;
                }
            }
        }

        int endQuestion() {
            foundCount = 0;
            for (int file = 0; file < isTold.length; file++) {
                if (isTold[file] && foundCount >= 0 && foundCount < found.length) {
                    found[foundCount] = file;
                    foundCount++;
                }
            }
            questions++;
            toldFiles += foundCount;
            return foundCount;
        }

        int foundCount() {
            return foundCount;
        }

        int foundFile(int index) {
            return index >= 0 && index < found.length ? found[index] : 0;
        }

        double meanFiles() {
            return questions == 0 ? 0.0 : (double) toldFiles / (double) questions;
        }
    }

    /** The tokens that were shown, in slots by their bits; an empty slot holds 0. */
    private static final class TokenSet {
        private static final int FIRST_SIZE = 256;
        // In 512 calls fewer than 21,000 tokens can be shown: 100 words for some 205 epochs.
        private static final int MOST_TOKENS = 32768;
        // Twice as many, so that there is always an empty slot to end a search.
        private static final int MOST_SLOTS = 65536;

        private int[] slots = new int[FIRST_SIZE];
        private int count;
        private boolean hasZero;

        // Keeps the token, and answers whether it was not kept before.
        boolean isNew(int token) {
            if (token == 0) {
                boolean isFirst = !hasZero;
                hasZero = true;
                return isFirst;
            }
            int slot = slotFor(slots, token);
            if (slot < 0 || slot >= slots.length || slots[slot] == token || count >= MOST_TOKENS) {
                return false;
            }
            slots[slot] = token;
            count++;
            if (2 * count > slots.length) {
                grow();
            }
            return true;
        }

        private void grow() {
            int size = 2 * slots.length;
            if (size < FIRST_SIZE || size > MOST_SLOTS) {
                return;
            }
            int[] more = new int[size];
            for (int i = 0; i < slots.length; i++) {
                int slot = slots[i] == 0 ? -1 : slotFor(more, slots[i]);
                if (slot >= 0 && slot < more.length) {
                    more[slot] = slots[i];
                }
            }
            slots = more;
        }

        // The slot that holds the token, or an empty one for it; -1 if there is neither.
        private static int slotFor(int[] among, int token) {
            int mask = among.length - 1;
            int start = token ^ (token >>> 16);
            for (int i = 0; i < among.length; i++) {
                int slot = (start + i) & mask;
                if (slot >= 0 && slot < among.length && (among[slot] == 0 || among[slot] == token)) {
                    return slot;
                }
            }
            return -1;
        }
    }

    private static final class Log {
        private static final int MOST_LEAVES = 300;
        // 300 leaves need 9 levels, a prefix proof one number more.
        private static final int MOST_LEVELS = 12;

        private final int[] kept = new int[MOST_LEAVES];
        private final int[] row = new int[MOST_LEVELS + 1];
        private int keptCount;
        private int rowLength;

        int count() {
            return keptCount;
        }

        boolean isFull() {
            return keptCount >= MOST_LEAVES;
        }

        void append(int leaf) {
            if (keptCount >= 0 && keptCount < kept.length) {
                kept[keptCount] = leaf;
                keptCount++;
            }
        }

        int leafAt(int index) {
            return index >= 0 && index < kept.length ? kept[index] : 0;
        }

        // Answers how many leaves are cut off.
        int cutTo(int leaves) {
            int cut = keptCount - leaves;
            keptCount = leaves;
            return cut;
        }

        int rootOf(int leaves) {
            return rootOfRange(kept, 0, leaves, 0);
        }

        // Fills the row from the greatest part of the tree to the smallest, and answers its length.
        int findProof(int leaves, int index) {
            int from = 0;
            int size = leaves;
            rowLength = 0;
            for (int level = 0; level < MOST_LEVELS && size > 1; level++) {
                int first = firstOnes(size);
                if (index < from + first) {
                    addToRow(rootOfRange(kept, from + first, size - first, level));
                    size = first;
                } else {
                    addToRow(rootOfRange(kept, from, first, level));
                    from += first;
                    size -= first;
                }
            }
            return rowLength;
        }

        // Fills the row as findProof does.
        int findPrefixProof(int fewer, int leaves) {
            int from = 0;
            int size = leaves;
            rowLength = 0;
            for (int level = 0; level < MOST_LEVELS && from + size != fewer; level++) {
                int first = firstOnes(size);
                if (fewer <= from + first) {
                    addToRow(rootOfRange(kept, from + first, size - first, level));
                    size = first;
                } else {
                    addToRow(rootOfRange(kept, from, first, level));
                    from += first;
                    size -= first;
                }
            }
            if (from > 0) {
                addToRow(rootOfRange(kept, from, size, 0));
            }
            return rowLength;
        }

        // The document tells a row from the smallest part of the tree to the greatest.
        int rowAt(int place) {
            int index = rowLength - 1 - place;
            return index >= 0 && index < row.length ? row[index] : 0;
        }

        private void addToRow(int root) {
            if (rowLength >= 0 && rowLength < row.length) {
                row[rowLength] = root;
                rowLength++;
            }
        }

        private static int rootOfRange(int[] leaves, int from, int size, int level) {
            if (size < 1 || level > MOST_LEVELS || from < 0 || from >= leaves.length) {
                return 0;
            }
            if (size == 1) {
                return Ciphers.mix(8, leaves[from]);
            }
            int first = firstOnes(size);
            int rootOfFirst = rootOfRange(leaves, from, first, level + 1);
            int rootOfOthers = rootOfRange(leaves, from + first, size - first, level + 1);
            return Ciphers.mix(Ciphers.mix(9, rootOfFirst), rootOfOthers);
        }

        // The greatest power of 2 that is less than the size.
        private static int firstOnes(int size) {
            int power = 1;
            for (int level = 0; level < MOST_LEVELS && 2 * power < size; level++) {
                power *= 2;
            }
            return power;
        }
    }

    /** Shares that are collected, by their places from 1 on. */
    private static final class Shares {
        static final int MODULUS = 65521;

        private final int[] values = new int[MOST_SHARES + 1];
        private final boolean[] isKept = new boolean[MOST_SHARES + 1];
        private int count;

        static int shareOf(int secret, int user, int needed, int place) {
            int seed = Ciphers.mix(3, user);
            long value = 0L;
            for (int j = needed - 1; j >= 1; j--) {
                value = (value + Math.floorMod(Ciphers.mix(seed, j), MODULUS)) * place % MODULUS;
            }
            return (int) ((value + secret) % MODULUS);
        }

        int keptCount() {
            return count;
        }

        void keep(int place, int share) {
            if (place >= 1 && place < isKept.length && place < values.length) {
                if (!isKept[place]) {
                    count++;
                }
                isKept[place] = true;
                values[place] = share;
            }
        }

        // Answers how many there were.
        int clear() {
            int before = count;
            for (int place = 1; place < isKept.length; place++) {
                isKept[place] = false;
            }
            count = 0;
            return before;
        }

        // The polynomial is a sum of those that are a share at its place and 0 at the other ones.
        int valueAtZero() {
            long sum = 0L;
            for (int place = 1; place < isKept.length && place < values.length; place++) {
                if (isKept[place]) {
                    sum += values[place] * weightAtZero(place) % MODULUS;
                }
            }
            return (int) (sum % MODULUS);
        }

        private long weightAtZero(int place) {
            long above = 1L;
            long below = 1L;
            for (int other = 1; other < isKept.length; other++) {
                if (other != place && isKept[other]) {
                    above = above * other % MODULUS;
                    below = below * Math.floorMod(other - place, MODULUS) % MODULUS;
                }
            }
            return above * inverseOf(below) % MODULUS;
        }

        // The modulus is a prime, so that the inverse is the power of 2 less than it.
        private static long inverseOf(long number) {
            long inverse = 1L;
            long power = number;
            int exponent = MODULUS - 2;
            for (int bit = 0; bit < 16; bit++) {
                if (((exponent >>> bit) & 1) == 1) {
                    inverse = inverse * power % MODULUS;
                }
                power = power * power % MODULUS;
            }
            return inverse;
        }
    }
}
