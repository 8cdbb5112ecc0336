import java.util.NoSuchElementException;

/** A test for each sentence of "Terms", in the order of the document, with the sentence above it. */
public final class TermsTest {
    private static final Class<NoSuchElementException> NONE = NoSuchElementException.class;
    private static final Class<IllegalArgumentException> BAD = IllegalArgumentException.class;
    private static final Class<IllegalStateException> STATE = IllegalStateException.class;
    private static final Class<UnsupportedOperationException> RIGHT = UnsupportedOperationException.class;
    private static final Class<IndexOutOfBoundsException> PLACE = IndexOutOfBoundsException.class;
    private static final Check check = new Check("TermsTest");

    public static void main(String[] args) {
        whoMayRead();
        numbers();
        ciphers();
        usersAndGroups();
        leaving();
        files();
        marks();
        words();
        log();
        serversAndClients();
        shares();
        away();
        exceptions();
        check.end();
    }

    // ---- at the head ----

    private static void whoMayRead() {
        foundByKeysAndByGrants();
        nobodyReadsBehindTheEnd();
    }

    /** "Who may read is found by keys, and by replaying all grants." */
    private static void foundByKeysAndByGrants() {
        Scene s = Scene.gardenWithFile(check);
        bothWays(s, "a member when it was written", 1, 0, true);
        bothWays(s, "never a member", 3, 0, false);
        s.with(x -> x.join(0, 3));
        bothWays(s, "joined after it was written", 3, 0, true);
        s.with(x -> x.leave(0, 3, false));
        bothWays(s, "left after it was written", 3, 0, true);
        s.with(x -> x.write(0, 0, 0, 71));
        bothWays(s, "left before it was written", 3, 0, false);
        bothWays(s, "stayed", 1, 0, true);
        s.with(x -> x.leave(0, 1, false));
        bothWays(s, "left directly after it was written", 1, 0, true);
    }

    private static void bothWays(Scene s, String told, int user, int part, boolean want) {
        s.due("canRead, " + told, want, x -> x.canRead(user, 0, part));
        s.due("canReadByGrants, " + told, want, x -> x.canReadByGrants(user, 0, part));
    }

    /** "Nobody reads what was written after their sharing ended." */
    private static void nobodyReadsBehindTheEnd() {
        Scene s = Scene.gardenWithFile(check).with(x -> x.join(0, 3)).with(x -> x.leave(0, 3, false));
        s.due("read(3, 0, 0), written before", 70, x -> x.read(3, 0, 0));
        s.with(x -> x.write(0, 0, 1, 71)).with(x -> x.leave(0, 1, true));
        s.refused("read(3, 0, 1), written after", RIGHT, x -> x.read(3, 0, 1));
        s.refused("read(3, 0, 0), written anew after", RIGHT, x -> x.read(3, 0, 0));
        s.refused("read(1, 0, 1), written anew after", RIGHT, x -> x.read(1, 0, 1));
        s.due("read(0, 0, 1), whose sharing did not end", 71, x -> x.read(0, 0, 1));
        bothWays(s, "written after", 3, 1, false);
    }

    /** "All numbers are ints, and all sums and products go round like ints, unless another thing is told." */
    private static void numbers() {
        Scene s = Scene.gardenWithFile(check);
        for (int value : new int[] {Integer.MAX_VALUE, Integer.MIN_VALUE}) {
            s.with(x -> x.write(0, 0, 0, value));
            s.due("the cipher of " + value, cipher(value, keyOfPart(0, 0, 0)), x -> x.cipher(0, 0));
            s.due("read, " + value, value, x -> x.read(0, 0, 0));
        }
    }

    // ---- Ciphers ----

    /** "The cipher of x with a key k is found in four rounds, r from 0 to 3: ...", each product taken modulo 2^32. */
    private static int cipher(int x, int k) {
        long found = x & 0xffffffffL;
        for (long r = 0; r <= 3; r++) {
            found = (found ^ (k + r * -1640531527L)) & 0xffffffffL;
            found = (found * 32 + found / 134217728) & 0xffffffffL;
            found = (5 * found + 3) & 0xffffffffL;
        }
        return (int) found;
    }

    /** "The mix of two numbers a and b is the cipher of a with the key b, exclusive-or with a." */
    private static int mix(int a, int b) {
        return cipher(a, b) ^ a;
    }

    private static int keyOfPart(int file, int version, int part) {
        return mix(mix(mix(4, file), version), part);
    }

    private static void ciphers() {
        cipherInFourRounds();
        openedBackwards();
        mixOfTwoNumbers();
    }

    /** The numbers of one cipher, round by round, by hand: 77 with the key -1. */
    private static void cipherInFourRounds() {
        int x = 77;
        x = 5 * Integer.rotateLeft(x ^ -1, 5) + 3;
        x = 5 * Integer.rotateLeft(x ^ -1640531528, 5) + 3;
        x = 5 * Integer.rotateLeft(x ^ 1013904241, 5) + 3;
        x = 5 * Integer.rotateLeft(x ^ -626627286, 5) + 3;
        check.due("the cipher of 77 with -1", cipher(77, -1), x);
        Scene s = Scene.garden(check).with(g -> g.addFile(0, 0)).with(g -> g.addFile(0, 0));
        for (int value : new int[] {0, 77, -5}) {
            s.with(g -> g.write(0, 1, 3, value));
            s.due("the cipher of " + value, cipher(value, keyOfPart(1, 0, 3)), g -> g.cipher(1, 3));
        }
    }

    /** "To open it means to do this backwards." */
    private static void openedBackwards() {
        Scene s = Scene.gardenWithFile(check);
        for (int value : new int[] {0, 1, -1, 77, 1 << 31, 1 << 30, 123456789}) {
            s.with(x -> x.write(0, 0, 2, value));
            s.due("read, " + value, value, x -> x.read(1, 0, 2));
            s.due("isSound(), " + value, true, x -> x.isSound());
        }
    }

    private static void mixOfTwoNumbers() {
        Scene s = Scene.garden(check);
        s.due("leaf(0), the mix of 100 and 1", cipher(100, 1) ^ 100, x -> x.leaf(0));
        s.with(x -> x.addFile(1, 2));
        s.due("mark(0), the mix of 6 and 0", cipher(6, 0) ^ 6, x -> x.mark(0));
        s.due("root(1), the mix of 8 and the leaf", cipher(8, mix(100, 1)) ^ 8, x -> x.root(1));
    }

    // ---- Users and groups ----

    private static void usersAndGroups() {
        usersAndTheirSecrets();
        groupsAndWhatTheyHave();
        keyOfAnEpoch();
        whoKnowsWhichKeys();
        joiningAgain();
    }

    /** "At most 6 users have numbers from 0; a user has a secret from 0 to 9999." */
    private static void usersAndTheirSecrets() {
        Scene s = new Scene(check);
        int[] secrets = {9999, 0, 5000, 1, 9998, 77};
        for (int i = 0; i < 6; i++) {
            int secret = secrets[i];
            s.due("addUser(" + secret + ")", i, x -> x.addUser(secret));
        }
        s.refused("addUser, the seventh", STATE, x -> x.addUser(5));
        for (int i = 0; i < 6; i++) {
            int user = i;
            s.with(x -> x.split(user, 1, 1));
            s.due("the secret of " + i, secrets[i], x -> x.share(user, 1));
        }
        Scene none = new Scene(check);
        none.refused("addUser(-1)", BAD, x -> x.addUser(-1));
        none.refused("addUser(10000)", BAD, x -> x.addUser(10000));
    }

    /**
     * "At most 5 groups have numbers from 0; a group has an owner, members, among them the owner at first, a quota of
     * parts, and an epoch, 0 at first."
     */
    private static void groupsAndWhatTheyHave() {
        Scene s = new Scene(check).with(x -> x.addUser(1)).with(x -> x.addUser(2));
        for (int i = 0; i < 5; i++) {
            int group = i;
            int owner = i % 2;
            s.due("addGroup, number " + i, i, x -> x.addGroup(owner, group + 1));
            s.due("its epoch", 0, x -> x.epoch(group));
            s.due("the owner is a member", true, x -> x.isMember(group, owner));
            s.due("the other one is none", false, x -> x.isMember(group, 1 - owner));
        }
        s.refused("addGroup, the sixth", STATE, x -> x.addGroup(0, 5));
        s.due("join(1, 0)", 2, x -> x.join(1, 0));
        s.refused("the owner leaves", BAD, x -> x.leave(1, 1, true));
        s.due("the other one leaves", 0, x -> x.leave(1, 0, true));
        s.with(x -> x.addFile(2, 0)).with(x -> x.write(0, 0, 0, 5)).with(x -> x.write(0, 0, 1, 5));
        s.due("write, the third part of a quota of 3", 0, x -> x.write(0, 0, 2, 5));
        s.refused("write, the fourth part of a quota of 3", STATE, x -> x.write(0, 0, 3, 5));
    }

    /**
     * "The key of an epoch e of the group g is the mix of the mix of 2 and g, and e." Only tokens tell it, and of these
     * only whether two are the same; the word 75 in epoch 126 of group 3 has the token of 58 in epoch 121 of group 4.
     */
    private static void keyOfAnEpoch() {
        int token = mix(mix(mix(2, 3), 126), 75);
        check.due("the same token", mix(mix(mix(2, 4), 121), 58), token);
        Scene s = new Scene(check).with(x -> x.addUser(0)).with(x -> x.addUser(1));
        for (int i = 0; i < 5; i++) {
            s.with(x -> x.addGroup(0, 1));
        }
        for (int i = 0; i < 121; i++) {
            s.with(x -> x.join(4, 1)).with(x -> x.leave(4, 1, false));
        }
        s.with(x -> x.forget(0)).with(x -> x.addFile(4, 0)).with(x -> x.tell(0, 0, 58));
        for (int i = 0; i < 125; i++) {
            s.with(x -> x.join(3, 1)).with(x -> x.leave(3, 1, false));
        }
        s.due("ask(0, 3, 75), in epoch 125", 0, x -> x.ask(0, 3, 75));
        s.with(x -> x.join(3, 1)).with(x -> x.leave(3, 1, false));
        s.due("ask(0, 3, 75), in epoch 126", 1, x -> x.ask(0, 3, 75));
        s.due("ask(0, 4, 75)", 0, x -> x.ask(0, 4, 75));
    }

    /**
     * "A member knows the keys of all epochs up to the present one; somebody who was a member knows those up to the one
     * that was the present one when they left; others none."
     */
    private static void whoKnowsWhichKeys() {
        Scene s = Scene.gardenWithFile(check).with(x -> x.join(0, 3)).with(x -> x.leave(0, 1, false));
        s.with(x -> x.write(0, 0, 1, 71)).with(x -> x.leave(0, 3, false)).with(x -> x.write(0, 0, 2, 72));
        int[] known = {2, 0, -1, 1};
        for (int i = 0; i < 4; i++) {
            int user = i;
            s.due("known(0, " + i + ")", known[i], x -> x.known(0, user));
            for (int j = 0; j < 3; j++) {
                int epoch = j;
                s.due("canRead(" + i + ", 0, " + j + ")", epoch <= known[i], x -> x.canRead(user, 0, epoch));
            }
        }
        s.refused("ask(2, 0, 5), who knows none", RIGHT, x -> x.ask(2, 0, 5));
        s.due("ask(1, 0, 5), who knows one", 0, x -> x.ask(1, 0, 5));
        s.due("shown(n)", 1, x -> x.shown('n'));
        s.due("ask(0, 0, 5), who knows three", 0, x -> x.ask(0, 0, 5));
        s.due("shown(n)", 3, x -> x.shown('n'));
    }

    /** "When a user joins again, they are a member as others are." */
    private static void joiningAgain() {
        Scene s = Scene.gardenWithFile(check).with(x -> x.leave(0, 1, false)).with(x -> x.join(0, 3));
        s.with(x -> x.leave(0, 3, false)).with(x -> x.write(0, 0, 1, 71));
        s.due("join(0, 1)", 2, x -> x.join(0, 1));
        s.due("known(0, 1)", 2, x -> x.known(0, 1));
        s.due("read(1, 0, 1), written in between", 71, x -> x.read(1, 0, 1));
        s.due("canReadByGrants(1, 0, 1)", true, x -> x.canReadByGrants(1, 0, 1));
        s.due("write(1, 0, 1, 72)", 1, x -> x.write(1, 0, 1, 72));
        s.due("tell(1, 0, 5)", 1, x -> x.tell(1, 0, 5));
        s.due("ask(1, 0, 5)", 1, x -> x.ask(1, 0, 5));
        s.due("addFile(0, 1)", 1, x -> x.addFile(0, 1));
    }

    // ---- Leaving ----

    private static void leaving() {
        epochIncreases();
        leavingAtOnce();
        leftToTheNextWrite();
    }

    /** "When a user leaves a group, its epoch increases by 1." */
    private static void epochIncreases() {
        Scene s = Scene.garden(check).with(x -> x.join(1, 1));
        for (int i = 1; i < 5; i++) {
            boolean isAtOnce = i % 2 == 0;
            s.with(x -> x.leave(0, 1, isAtOnce));
            s.due("epoch(0)", i, x -> x.epoch(0));
            s.with(x -> x.join(0, 1));
            s.due("epoch(0), joining leaves it", i, x -> x.epoch(0));
        }
        s.due("epoch(1), another group", 0, x -> x.epoch(1));
    }

    /**
     * "If it is at once, the key of each file of the group that is neither thrown away nor spoiled is turned, by rising
     * numbers, and all its parts are written anew under the new version, with what they have, and its mark is found
     * anew; that is no write."
     */
    private static void leavingAtOnce() {
        Scene s = Scene.gardenWithFile(check).with(x -> x.write(0, 0, 5, 75));
        for (int i = 1; i < 5; i++) {
            int file = i;
            s.with(x -> x.addFile(file == 4 ? 1 : 0, file == 4 ? 2 : 0));
            s.with(x -> x.write(file == 4 ? 2 : 0, file, 1, 80 + file));
        }
        s.with(x -> x.throwAway(0, 1)).with(x -> x.spoil(2, 1, 4));
        int leaves = s.number(x -> x.leaves());
        int spoiledMark = s.number(x -> x.mark(2));
        s.due("leave(0, 1, true), the parts of two files", 3, x -> x.leave(0, 1, true));
        s.due("epoch(0)", 1, x -> x.epoch(0));
        int first = cipher(70, keyOfPart(0, 1, 0));
        int second = cipher(75, keyOfPart(0, 1, 5));
        s.due("cipher(0, 0)", first, x -> x.cipher(0, 0));
        s.due("cipher(0, 5)", second, x -> x.cipher(0, 5));
        s.due("mark(0)", mix(mix(mix(6, 0), first), second ^ 5), x -> x.mark(0));
        s.due("cipher(3, 1)", cipher(83, keyOfPart(3, 1, 1)), x -> x.cipher(3, 1));
        s.due("version(1, 1), thrown away", 0, x -> x.version(1, 1));
        s.due("version(2, 1), spoiled", 0, x -> x.version(2, 1));
        s.due("mark(2), spoiled", spoiledMark, x -> x.mark(2));
        s.due("version(4, 1), another group", 0, x -> x.version(4, 1));
        s.due("writes(0, 5), no write", 1, x -> x.writes(0, 5));
        s.due("leaves(), no write", leaves + 1, x -> x.leaves());
        s.due("write(0, 0, 0, 71), turned once", 1, x -> x.write(0, 0, 0, 71));
    }

    /** "Otherwise, this is left to the next write." */
    private static void leftToTheNextWrite() {
        Scene s = Scene.gardenWithFile(check).with(x -> x.write(0, 0, 1, 71));
        int mark = s.number(x -> x.mark(0));
        s.due("leave(0, 1, false)", 0, x -> x.leave(0, 1, false));
        s.due("version(0, 0)", 0, x -> x.version(0, 0));
        s.due("mark(0)", mark, x -> x.mark(0));
        s.due("canRead(1, 0, 0)", true, x -> x.canRead(1, 0, 0));
        s.due("write(0, 0, 1, 72)", 1, x -> x.write(0, 0, 1, 72));
        s.due("canRead(1, 0, 1), written then", false, x -> x.canRead(1, 0, 1));
        s.due("canRead(1, 0, 0), not written then", true, x -> x.canRead(1, 0, 0));
    }

    // ---- Files ----

    private static void files() {
        filesAndWhatTheyHave();
        epochOfTheFirstVersion();
        turningTheKey();
        partsAndWhatTheyHave();
        turnedAheadOfAWrite();
        whoCanReadAPart();
    }

    /** "At most 20 files have numbers from 0; a file belongs to a group, and has a version, 0 at first, ..." */
    private static void filesAndWhatTheyHave() {
        Scene s = Scene.garden(check);
        for (int i = 0; i < 20; i++) {
            int group = i % 2;
            s.due("addFile, number " + i, i, x -> x.addFile(group, 2 * group));
        }
        s.refused("addFile, the twenty-first", STATE, x -> x.addFile(0, 0));
        s.due("write(2, 19, 0, 5), a file of group 1, version 0", 0, x -> x.write(2, 19, 0, 5));
        s.refused("write(0, 19, 0, 5), of group 1", RIGHT, x -> x.write(0, 19, 0, 5));
        s.due("write(0, 18, 0, 5), a file of group 0, version 0", 0, x -> x.write(0, 18, 0, 5));
        s.due("parts(1)", 1, x -> x.parts(1));
    }

    /** "... whose epoch is that of the group when the version began." */
    private static void epochOfTheFirstVersion() {
        Scene s = Scene.garden(check).with(x -> x.leave(0, 1, false)).with(x -> x.addFile(0, 0));
        s.due("write(0, 0, 0, 70), not turned", 0, x -> x.write(0, 0, 0, 70));
        s.due("canRead(1, 0, 0), left before the version began", false, x -> x.canRead(1, 0, 0));
        s.with(x -> x.join(0, 3)).with(x -> x.leave(0, 3, false));
        s.due("canRead(3, 0, 0), left after it began", true, x -> x.canRead(3, 0, 0));
        s.due("write(0, 0, 0, 71), turned", 1, x -> x.write(0, 0, 0, 71));
        s.due("canRead(3, 0, 0), left before the next one began", false, x -> x.canRead(3, 0, 0));
    }

    /**
     * "To turn the key of a file, its version increases by 1."; "The key of a version v of the file f is the mix of the
     * mix of 4 and f, and v."
     */
    private static void turningTheKey() {
        Scene s = Scene.garden(check).with(x -> x.addFile(0, 0)).with(x -> x.addFile(0, 0));
        for (int i = 0; i < 6; i++) {
            int version = i;
            s.due("write(0, 1, 0, 9)", version, x -> x.write(0, 1, 0, 9));
            int key = mix(mix(mix(4, 1), version), 0);
            s.due("cipher(1, 0), version " + version, cipher(9, key), x -> x.cipher(1, 0));
            s.with(x -> x.leave(0, 1, false)).with(x -> x.join(0, 1));
        }
        s.due("write(0, 0, 0, 9), the epoch went on by 6, the version by 1", 1, x -> x.write(0, 0, 0, 9));
    }

    /**
     * "A file has the parts 0 to 7, each of which is there when it was written; it has the version under which it was
     * written, the number of its writes, and its cipher: the cipher of its value with the mix of the key of this
     * version and the number of the part."
     */
    private static void partsAndWhatTheyHave() {
        Scene s = Scene.garden(check).with(x -> x.addFile(0, 0));
        s.refused("write(0, 0, 8, 1)", BAD, x -> x.write(0, 0, 8, 1));
        s.refused("write(0, 0, -1, 1)", BAD, x -> x.write(0, 0, -1, 1));
        for (int i = 0; i < 8; i++) {
            int part = i;
            s.refused("cipher(0, " + i + "), not written", NONE, x -> x.cipher(0, part));
            s.due("writes(0, " + i + "), not written", 0, x -> x.writes(0, part));
            s.with(x -> x.write(0, 0, part, 5)).with(x -> x.write(0, 0, part, 50 + part));
            s.due("version(0, " + i + ")", 0, x -> x.version(0, part));
            s.due("writes(0, " + i + ")", 2, x -> x.writes(0, part));
            s.due("cipher(0, " + i + ")", cipher(50 + i, mix(mix(mix(4, 0), 0), i)), x -> x.cipher(0, part));
        }
        s.with(x -> x.leave(0, 1, false)).with(x -> x.write(0, 0, 3, 53));
        s.due("version(0, 3), its own", 1, x -> x.version(0, 3));
        s.due("version(0, 4), its own", 0, x -> x.version(0, 4));
        s.due("read(0, 0, 4), under its own version", 54, x -> x.read(0, 0, 4));
        s.due("writes(0, 3)", 3, x -> x.writes(0, 3));
    }

    /**
     * "The key of a file is turned ahead of a write, if the epoch of its version is not the present one of its group."
     */
    private static void turnedAheadOfAWrite() {
        Scene s = Scene.gardenWithFile(check).with(x -> x.join(0, 3));
        s.due("write, the same epoch", 0, x -> x.write(0, 0, 1, 5));
        s.with(x -> x.leave(0, 1, false));
        s.due("write, refused", "throws.UnsupportedOperationException", x -> x.write(1, 0, 1, 5));
        s.with(x -> x.leave(0, 3, false));
        s.due("write, another epoch, and none was refused ahead of it", 1, x -> x.write(0, 0, 1, 5));
        s.due("the cipher, under the new version", cipher(5, keyOfPart(0, 1, 1)), x -> x.cipher(0, 1));
        s.due("write, the same epoch", 1, x -> x.write(0, 0, 0, 6));
        s.with(x -> x.join(0, 1)).with(x -> x.leave(0, 1, true));
        s.due("write, turned at once", 2, x -> x.write(0, 0, 1, 7));
        s.with(x -> x.join(1, 1)).with(x -> x.leave(1, 1, false));
        s.due("write, the epoch of another group", 2, x -> x.write(0, 0, 1, 8));
    }

    /** "A user can read a part if they know the key of the epoch in which its version began." */
    private static void whoCanReadAPart() {
        Scene s = Scene.gardenWithFile(check).with(x -> x.join(0, 3)).with(x -> x.leave(0, 3, false));
        s.with(x -> x.write(0, 0, 1, 71)).with(x -> x.leave(0, 1, false));
        s.due("read(3, 0, 0), began in epoch 0", 70, x -> x.read(3, 0, 0));
        s.refused("read(3, 0, 1), began in epoch 1", RIGHT, x -> x.read(3, 0, 1));
        s.due("read(1, 0, 1), left in epoch 1", 71, x -> x.read(1, 0, 1));
        s.with(x -> x.write(0, 0, 0, 72));
        s.refused("read(1, 0, 0), began in epoch 2", RIGHT, x -> x.read(1, 0, 0));
        s.refused("read(2, 0, 1), who knows none", RIGHT, x -> x.read(2, 0, 1));
        s.with(x -> x.goAway(0));
        s.due("read(0, 0, 0), away", 72, x -> x.read(0, 0, 0));
    }

    // ---- Marks ----

    private static void marks() {
        markOfAFile();
        keptMark();
        spoiling();
    }

    /**
     * "The mark of a file is found from the mix of 6 and its number, by the mix of what was found so far and of the
     * cipher of each part that is there exclusive-or with its number, by rising numbers."
     */
    private static void markOfAFile() {
        Scene s = Scene.garden(check).with(x -> x.addFile(0, 0)).with(x -> x.addFile(0, 0));
        s.due("mark(1)", mix(6, 1), x -> x.mark(1));
        s.with(x -> x.write(0, 1, 6, 60)).with(x -> x.write(0, 1, 2, 20));
        int second = cipher(20, keyOfPart(1, 0, 2));
        int sixth = cipher(60, keyOfPart(1, 0, 6));
        s.due("mark(1), parts 2 and 6", mix(mix(mix(6, 1), second ^ 2), sixth ^ 6), x -> x.mark(1));
        s.due("mark(0), another file", mix(6, 0), x -> x.mark(0));
    }

    /**
     * "The mark is kept, at first as that of a file without parts, and found anew when a part is written, but not by
     * purging."
     */
    private static void keptMark() {
        Scene s = Scene.gardenWithFile(check);
        int before = s.number(x -> x.mark(0));
        s.with(x -> x.write(0, 0, 0, 71));
        int behind = s.number(x -> x.mark(0));
        check.due("mark(0), another value", before != behind, true);
        s.with(x -> x.write(0, 0, 0, 70));
        s.due("mark(0), the same value again", before, x -> x.mark(0));
        s.with(x -> x.throwAway(0, 0));
        s.due("purge()", 1, x -> x.purge());
        s.due("mark(0), purged", before, x -> x.mark(0));
    }

    /**
     * "The server can spoil a part, by which its cipher becomes another one, and the kept mark stays."; "A file is
     * spoiled if its kept mark is not that of its parts."
     */
    private static void spoiling() {
        Scene s = Scene.gardenWithFile(check).with(x -> x.write(0, 0, 7, 77));
        int mark = s.number(x -> x.mark(0));
        int cipher = cipher(77, keyOfPart(0, 0, 7));
        s.due("spoil(0, 7, 12)", cipher ^ 12, x -> x.spoil(0, 7, 12));
        s.due("cipher(0, 7)", cipher ^ 12, x -> x.cipher(0, 7));
        s.due("mark(0)", mark, x -> x.mark(0));
        s.due("status(0)", 's', x -> x.status(0));
        s.refused("read(0, 0, 0), the other part", STATE, x -> x.read(0, 0, 0));
        s.with(x -> x.spoil(0, 7, 12));
        s.due("status(0), taken back", 'o', x -> x.status(0));
        s.due("read(0, 0, 7), taken back", 77, x -> x.read(0, 0, 7));
        sameMark();
    }

    /** Another cipher can have the same mark: then the file is not spoiled. */
    private static void sameMark() {
        int[] ciphers = RandomRunsTest.ciphersOfSameMark(mix(6, 0), 0);
        int value = Model.unseal(ciphers[0], keyOfPart(0, 0, 0));
        Scene s = Scene.garden(check).with(x -> x.addFile(0, 0)).with(x -> x.write(0, 0, 0, value));
        s.due("spoil, to a cipher of the same mark", ciphers[1], x -> x.spoil(0, 0, ciphers[0] ^ ciphers[1]));
        s.due("status(0), the same mark", 'o', x -> x.status(0));
        s.due("write(0, 0, 1, 5), the same mark", 0, x -> x.write(0, 0, 1, 5));
    }

    // ---- Words ----

    private static void words() {
        wordsFrom0To99();
        tokensKept();
        questions();
        newRepeatedAndTold();
    }

    /** "Words are from 0 to 99." */
    private static void wordsFrom0To99() {
        Scene s = Scene.gardenWithFile(check);
        for (int word : new int[] {-1, 100}) {
            s.refused("tell(0, 0, " + word + ")", BAD, x -> x.tell(0, 0, word));
            s.refused("ask(0, 0, " + word + ")", BAD, x -> x.ask(0, 0, word));
        }
        s.due("tell(0, 0, 0)", 1, x -> x.tell(0, 0, 0));
        s.due("tell(0, 0, 99)", 2, x -> x.tell(0, 0, 99));
    }

    /**
     * "A member can tell a word for a file; the server keeps the mix of the key of the present epoch of its group and
     * the word, the token, with the file; the same token with the same file is kept once, and at most 60 are kept."
     */
    private static void tokensKept() {
        Scene s = Scene.gardenWithFile(check).with(x -> x.addFile(0, 0));
        s.refused("tell(2, 0, 5), no member", RIGHT, x -> x.tell(2, 0, 5));
        s.due("tell(0, 0, 5)", 1, x -> x.tell(0, 0, 5));
        s.due("tell(1, 0, 5), the same token", 1, x -> x.tell(1, 0, 5));
        s.due("tell(1, 1, 5), with another file", 2, x -> x.tell(1, 1, 5));
        s.with(x -> x.leave(0, 1, false));
        s.due("tell(0, 0, 5), in the present epoch", 3, x -> x.tell(0, 0, 5));
        for (int i = 3; i < 60; i++) {
            int word = i + 10;
            s.with(x -> x.tell(0, 0, word));
        }
        s.refused("tell(0, 0, 99), 60 are kept", STATE, x -> x.tell(0, 0, 99));
        s.due("tell(0, 0, 5), kept", 60, x -> x.tell(0, 0, 5));
    }

    /**
     * "A question of a user in a group for a word shows the server the tokens of it for all epochs that the user knows
     * there, by rising epochs; it tells, by rising numbers, the files with one of them, thrown-away files included."
     */
    private static void questions() {
        Scene s = Scene.garden(check);
        for (int i = 0; i < 4; i++) {
            s.with(x -> x.addFile(0, 0));
        }
        s.with(x -> x.tell(0, 3, 5)).with(x -> x.tell(0, 2, 6)).with(x -> x.leave(0, 1, false));
        s.with(x -> x.tell(0, 0, 5)).with(x -> x.tell(0, 3, 5)).with(x -> x.throwAway(0, 3)).with(x -> x.purge());
        s.due("ask(0, 0, 5), two epochs", 2, x -> x.ask(0, 0, 5));
        s.due("shown(n), two tokens", 2, x -> x.shown('n'));
        s.due("foundAt(0)", 0, x -> x.foundAt(0));
        s.due("foundAt(1), thrown away", 3, x -> x.foundAt(1));
        s.refused("foundAt(2)", PLACE, x -> x.foundAt(2));
        s.due("ask(1, 0, 5), one epoch", 1, x -> x.ask(1, 0, 5));
        s.due("foundAt(0), told in this epoch", 3, x -> x.foundAt(0));
        s.due("ask(1, 0, 6)", 1, x -> x.ask(1, 0, 6));
        s.due("foundAt(0)", 2, x -> x.foundAt(0));
    }

    /**
     * "Each token that was never shown before counts as new, each other one as repeated; the files that are told are
     * counted, each time."
     */
    private static void newRepeatedAndTold() {
        Scene s = Scene.gardenWithFile(check).with(x -> x.tell(0, 0, 5)).with(x -> x.leave(0, 1, false));
        counts(s, 0, 0, 0);
        s.with(x -> x.ask(1, 0, 5));
        counts(s, 1, 0, 1);
        s.with(x -> x.ask(0, 0, 5));
        counts(s, 2, 1, 2);
        s.with(x -> x.ask(0, 0, 5));
        counts(s, 2, 3, 3);
        s.with(x -> x.ask(0, 0, 6));
        counts(s, 4, 3, 3);
    }

    private static void counts(Scene s, int fresh, int repeated, int told) {
        s.due("shown(n)", fresh, x -> x.shown('n'));
        s.due("shown(r)", repeated, x -> x.shown('r'));
        s.due("shown(f)", told, x -> x.shown('f'));
    }

    // ---- The log ----

    private static void log() {
        leavesOfTheLog();
        atMost300Leaves();
        roots();
        proofOfALeaf();
        proofOfTheFirstOnes();
    }

    /**
     * "A log has leaves, each of which is an int: for each write, also of one who comes back, the mix of 8 times the
     * file plus the part, and its cipher; for joining, the mix of 100 plus the group, and the user; for leaving, the mix
     * of 200 plus the group, and the user; for throwing a file away, the mix of 300 and the file."
     */
    private static void leavesOfTheLog() {
        Scene s = new Scene(check).with(x -> x.addUser(1)).with(x -> x.addUser(2)).with(x -> x.addGroup(0, 9));
        s.with(x -> x.addGroup(0, 9)).with(x -> x.addFile(1, 0)).with(x -> x.addFile(1, 0)).with(x -> x.join(1, 1));
        s.with(x -> x.goAway(1)).with(x -> x.draft(1, 1, 4, 14)).with(x -> x.write(0, 1, 2, 12));
        s.with(x -> x.comeBack(1)).with(x -> x.leave(1, 1, true)).with(x -> x.throwAway(0, 1));
        int written = mix(10, cipher(12, keyOfPart(1, 0, 2)));
        int drafted = mix(12, cipher(14, keyOfPart(1, 0, 4)));
        int[] leaves = {mix(101, 1), written, drafted, mix(201, 1), mix(300, 1)};
        s.due("leaves()", leaves.length, x -> x.leaves());
        for (int i = 0; i < leaves.length; i++) {
            int index = i;
            s.due("leaf(" + i + ")", leaves[i], x -> x.leaf(index));
        }
    }

    /** "At most 300 leaves are kept." */
    private static void atMost300Leaves() {
        Scene s = Scene.gardenWithFile(check).withLeaves(299);
        s.due("join, the last leaf", 3, x -> x.join(0, 3));
        s.refused("write, 300 leaves", STATE, x -> x.write(0, 0, 0, 5));
        s.refused("join, 300 leaves", STATE, x -> x.join(0, 2));
        s.refused("leave, 300 leaves", STATE, x -> x.leave(0, 3, true));
        s.refused("throwAway, 300 leaves", STATE, x -> x.throwAway(0, 0));
        s.with(x -> x.goAway(1)).with(x -> x.draft(1, 0, 0, 5));
        s.due("comeBack, 300 leaves", 0, x -> x.comeBack(1));
        s.due("leaves()", 300, x -> x.leaves());
    }

    /** A scene with so many leaves, which are the mixes of 0 and the ciphers of 0, 1, 2 and so on. */
    private static Scene leaves(int count) {
        Scene s = new Scene(check).with(x -> x.addUser(1)).with(x -> x.addGroup(0, 9)).with(x -> x.addFile(0, 0));
        return s.withLeaves(count);
    }

    /** The root of one leaf of this scene. */
    private static int one(int index) {
        return mix(8, mix(0, cipher(index, keyOfPart(0, 0, 0))));
    }

    private static int both(int first, int others) {
        return mix(mix(9, first), others);
    }

    private static int two(int index) {
        return both(one(index), one(index + 1));
    }

    private static int four(int index) {
        return both(two(index), two(index + 2));
    }

    /**
     * "The root of no leaves is 0; that of one leaf is the mix of 8 and the leaf; that of more is the mix of the mix of 9
     * and the root of the first ones, and the root of the others, where the first ones are as many as the greatest power
     * of 2 that is less than their number."
     */
    private static void roots() {
        Scene s = leaves(9);
        int[] roots = {0, one(0), two(0), both(two(0), one(2)), four(0), both(four(0), one(4)), both(four(0), two(4)),
            both(four(0), both(two(4), one(6))), both(four(0), four(4)), both(both(four(0), four(4)), one(8))};
        for (int i = 0; i < roots.length; i++) {
            int leaves = i;
            s.due("root(" + i + ")", roots[i], x -> x.root(leaves));
        }
    }

    /**
     * "The proof that a leaf is in the first n leaves is the row of the roots of those others, or first ones, in which it
     * is not, from the smallest to the greatest."
     */
    private static void proofOfALeaf() {
        Scene s = leaves(9);
        proof(s, 1, 0);
        proof(s, 2, 1, one(0));
        proof(s, 3, 0, one(1), one(2));
        proof(s, 5, 0, one(1), two(2), one(4));
        proof(s, 5, 4, four(0));
        proof(s, 6, 4, one(5), four(0));
        proof(s, 7, 3, one(2), two(0), both(two(4), one(6)));
        proof(s, 7, 6, two(4), four(0));
        proof(s, 8, 5, one(4), two(6), four(0));
        proof(s, 9, 8, both(four(0), four(4)));
        proof(s, 9, 2, one(3), two(0), four(4), one(8));
    }

    private static void proof(Scene s, int leaves, int index, int... row) {
        String told = "(" + leaves + ", " + index;
        s.due("proofLength" + told + ")", row.length, x -> x.proofLength(leaves, index));
        for (int i = 0; i < row.length; i++) {
            int place = i;
            s.due("proofAt" + told + ", " + i + ")", row[i], x -> x.proofAt(leaves, index, place));
        }
        s.refused("proofAt" + told + "), behind the last", PLACE, x -> x.proofAt(leaves, index, row.length));
    }

    /**
     * "The proof that the first n leaves begin with the first m ones, with m from 1 to n, is a row that is told for m, n
     * and whether it is whole, true at first: for m the same as n, nothing if it is whole, otherwise the root of these;
     * for others, if m is not more than the first ones of n, the row for m and these first ones, then the root of the
     * others; else the row for the others, which is not whole, with m and n less the first ones, then the root of the
     * first ones."
     */
    private static void proofOfTheFirstOnes() {
        Scene s = leaves(9);
        prefix(s, 1, 1);
        prefix(s, 5, 5);
        prefix(s, 1, 2, one(1));
        prefix(s, 2, 3, one(2));
        prefix(s, 1, 5, one(1), two(2), one(4));
        prefix(s, 3, 4, one(2), one(3), two(0));
        prefix(s, 3, 7, one(2), one(3), two(0), both(two(4), one(6)));
        prefix(s, 4, 7, both(two(4), one(6)));
        prefix(s, 5, 7, one(4), one(5), one(6), four(0));
        prefix(s, 6, 7, two(4), one(6), four(0));
        prefix(s, 7, 8, one(6), one(7), two(4), four(0));
        prefix(s, 8, 9, one(8));
        prefix(s, 5, 9, one(4), one(5), two(6), four(0), one(8));
    }

    private static void prefix(Scene s, int first, int leaves, int... row) {
        String told = "(" + first + ", " + leaves;
        s.due("prefixLength" + told + ")", row.length, x -> x.prefixLength(first, leaves));
        for (int i = 0; i < row.length; i++) {
            int place = i;
            s.due("prefixAt" + told + ", " + i + ")", row[i], x -> x.prefixAt(first, leaves, place));
        }
        s.refused("prefixAt" + told + "), behind the last", PLACE, x -> x.prefixAt(first, leaves, row.length));
    }

    // ---- Servers and clients ----

    private static void serversAndClients() {
        headOfAUser();
        acceptedOrAnAlarm();
        forgetting();
        meeting();
    }

    /** "Each user keeps the head that was accepted last: a number of leaves and a root, at first 0 and 0." */
    private static void headOfAUser() {
        Scene s = Scene.gardenWithFile(check).withLeaves(6);
        s.due("head(0), at first", 0, x -> x.head(0));
        s.due("show(0, 0), the root of none is 0", 'k', x -> x.show(0, 0));
        s.due("show(0, 3)", 'k', x -> x.show(0, 3));
        s.due("head(0)", 3, x -> x.head(0));
        s.due("show(0, 6)", 'k', x -> x.show(0, 6));
        s.due("head(0), the last", 6, x -> x.head(0));
        s.due("show(0, 5), no accepted one", 'a', x -> x.show(0, 5));
        s.due("head(0), still", 6, x -> x.head(0));
        s.due("head(1), of another user", 0, x -> x.head(1));
    }

    /**
     * "When the server shows a number of leaves, the user accepts it if it is not less than that of the head, and the
     * first ones as many as that of the head have its root; otherwise it is an alarm."
     */
    private static void acceptedOrAnAlarm() {
        Scene s = Scene.gardenWithFile(check).withLeaves(6).with(x -> x.show(0, 5));
        s.due("show(0, 5), not less", 'k', x -> x.show(0, 5));
        s.due("show(0, 4), less", 'a', x -> x.show(0, 4));
        s.due("alarms(0)", 1, x -> x.alarms(0));
        s.with(x -> x.forget(4)).with(x -> x.write(0, 0, 0, 1000)).with(x -> x.write(0, 0, 0, 1001));
        s.due("show(0, 6), the first 5 have another root", 'a', x -> x.show(0, 6));
        s.due("alarms(0)", 2, x -> x.alarms(0));
        s.due("show(1, 6), who saw none", 'k', x -> x.show(1, 6));
        s.due("alarms(1)", 0, x -> x.alarms(1));
    }

    /** "The server can forget all leaves behind some number." */
    private static void forgetting() {
        Scene s = Scene.gardenWithFile(check).withLeaves(6);
        int root = s.number(x -> x.root(4));
        int leaf = s.number(x -> x.leaf(3));
        s.due("forget(4)", 2, x -> x.forget(4));
        s.due("leaves()", 4, x -> x.leaves());
        s.due("root(4)", root, x -> x.root(4));
        s.due("leaf(3)", leaf, x -> x.leaf(3));
        s.refused("leaf(4)", PLACE, x -> x.leaf(4));
        s.refused("root(5)", BAD, x -> x.root(5));
    }

    /**
     * "When two users meet, they are content if both heads are the same, or the server can show them, now, that the first
     * ones as many as either head tells have the root that this head tells; otherwise, both have an alarm."
     */
    private static void meeting() {
        Scene s = Scene.gardenWithFile(check).withLeaves(6).with(x -> x.show(0, 6)).with(x -> x.show(1, 6));
        s.with(x -> x.show(2, 4));
        s.due("meet(0, 2), both are shown", 'k', x -> x.meet(0, 2));
        s.with(x -> x.forget(5));
        s.due("meet(0, 1), the same heads", 'k', x -> x.meet(0, 1));
        s.due("meet(0, 2), the one of 6 is not shown", 'a', x -> x.meet(0, 2));
        s.due("meet(2, 0), the other way", 'a', x -> x.meet(2, 0));
        s.due("meet(2, 3), both are shown", 'k', x -> x.meet(2, 3));
        s.with(x -> x.write(0, 0, 0, 1000)).with(x -> x.show(3, 6));
        s.due("meet(0, 3), as many leaves, another root", 'a', x -> x.meet(0, 3));
        s.due("meet(2, 3), both are shown", 'k', x -> x.meet(2, 3));
        int[] alarms = {3, 0, 2, 1};
        for (int i = 0; i < 4; i++) {
            int user = i;
            s.due("alarms(" + i + ")", alarms[i], x -> x.alarms(user));
        }
    }

    // ---- Shares ----

    private static void shares() {
        numbersOfShares();
        splitByAPolynomial();
        recoveredAtZero();
    }

    /** "Shares are numbers modulo 65521, from 0 to 65520." */
    private static void numbersOfShares() {
        Scene s = Scene.garden(check);
        s.refused("collect(1, -1)", BAD, x -> x.collect(1, -1));
        s.refused("collect(1, 65521)", BAD, x -> x.collect(1, 65521));
        s.due("collect(1, 65520)", 1, x -> x.collect(1, 65520));
        s.due("collect(2, 0)", 2, x -> x.collect(2, 0));
        s.due("recovered(), a line from 65520 at 1 to 0 at 2", 65519, x -> x.recovered());
    }

    /**
     * "The secret of a user is split by a polynomial of a degree less than the number needed, whose lowest coefficient is
     * the secret, and whose coefficient j, from 1 on, is the mix of the mix of 3 and the user, and j, modulo 65521, taken
     * from 0 on; the share i, from 1 on, is its value at i."
     */
    private static void splitByAPolynomial() {
        Scene s = new Scene(check).with(x -> x.addUser(7)).with(x -> x.addUser(1234));
        for (int needed = 1; needed <= 8; needed++) {
            int own = needed;
            s.with(x -> x.split(1, 8, own));
            for (int i = 1; i <= 8; i++) {
                int place = i;
                long value = 1234;
                long power = 1;
                for (int j = 1; j < needed; j++) {
                    power = power * place % 65521;
                    value += Math.floorMod((long) mix(mix(3, 1), j), 65521L) * power % 65521;
                }
                s.due("share(1, " + i + "), needed " + needed, value % 65521, x -> x.share(1, place));
            }
        }
        s.refused("share(1, 0)", PLACE, x -> x.share(1, 0));
        s.refused("share(1, 9)", PLACE, x -> x.share(1, 9));
    }

    /**
     * "What is recovered from some shares, with places that differ, is the value at 0 of the polynomial of the least
     * degree that goes through them, modulo 65521."
     */
    private static void recoveredAtZero() {
        Scene s = Scene.garden(check);
        long[] values = {0, 7, 65520, 12345, 1, 40000, 2, 65519, 333};
        for (int i = 8; i >= 1; i--) {
            int place = i;
            s.with(x -> x.collect(place, (int) values[place]));
            s.due("recovered(), from " + place + " to 8", recovered(values, place), x -> x.recovered());
        }
        s.with(x -> x.collect(3, 54321));
        values[3] = 54321;
        s.due("recovered(), one in place of another", recovered(values, 1), x -> x.recovered());
    }

    /** By differences: the next lower value of a row, whose highest difference stays the same, down to that at 0. */
    private static long recovered(long[] values, int from) {
        long[] row = values.clone();
        for (int at = from - 1; at >= 0; at--) {
            long[] differences = new long[9];
            int degree = 8 - from;
            for (int place = at + 1; place <= at + 1 + degree; place++) {
                differences[place - at - 1] = row[place];
            }
            long found = 0;
            for (int order = 0; order <= degree; order++) {
                found += order % 2 == 0 ? differences[0] : -differences[0];
                for (int i = 0; i + 1 <= degree - order; i++) {
                    differences[i] = Math.floorMod(differences[i + 1] - differences[i], 65521L);
                }
            }
            row[at] = Math.floorMod(found, 65521L);
        }
        return row[0];
    }

    // ---- Away ----

    private static void away() {
        drafts();
        writesThatADraftKeeps();
        draftsGoneThrough();
    }

    /**
     * "A user who is away can make drafts, at most 10, one for each part, a later one in place of an earlier one and
     * behind all others."
     */
    private static void drafts() {
        Scene s = Scene.gardenWithFile(check).with(x -> x.addFile(0, 0));
        s.refused("draft(3, 0, 0, 1), not away", STATE, x -> x.draft(3, 0, 0, 1));
        s.with(x -> x.goAway(3));
        for (int i = 0; i < 10; i++) {
            int place = i;
            s.due("draft, number " + (i + 1), i + 1, x -> x.draft(3, place / 8, place % 8, 1));
        }
        s.refused("draft, the eleventh", STATE, x -> x.draft(3, 1, 2, 1));
        s.due("draft, in place of the second", 10, x -> x.draft(3, 0, 1, 2));
        s.due("comeBack(3), no member", 0, x -> x.comeBack(3));
        int[] places = {0, 2, 3, 4, 5, 6, 7, 8, 9, 1};
        for (int i = 0; i < 10; i++) {
            int index = i;
            s.due("conflictAt(" + i + ")", places[i], x -> x.conflictAt(index));
        }
    }

    /** "A draft keeps the number of writes that the part had when it was made, 0 for one that is not there." */
    private static void writesThatADraftKeeps() {
        Scene s = Scene.gardenWithFile(check).with(x -> x.goAway(1)).with(x -> x.draft(1, 0, 0, 100));
        s.with(x -> x.draft(1, 0, 1, 101)).with(x -> x.draft(1, 0, 2, 102)).with(x -> x.draft(1, 0, 3, 103));
        s.with(x -> x.write(0, 0, 0, 71)).with(x -> x.write(0, 0, 2, 72)).with(x -> x.draft(1, 0, 2, 104));
        s.due("comeBack(1)", 3, x -> x.comeBack(1));
        s.due("conflicts()", 1, x -> x.conflicts());
        s.due("conflictAt(0), one write then, two now", 0, x -> x.conflictAt(0));
        s.due("read(0, 0, 1), not there then and now", 101, x -> x.read(0, 0, 1));
        s.due("read(0, 0, 2), a later draft with one write", 104, x -> x.read(0, 0, 2));
        s.due("read(0, 0, 0), a conflict", 71, x -> x.read(0, 0, 0));
    }

    /**
     * "When the user comes back, the drafts are gone through in their order: one becomes a write if this user could write
     * this part then and its number of writes is what the draft keeps; otherwise it is a conflict."
     */
    private static void draftsGoneThrough() {
        Scene s = Scene.garden(check).with(x -> x.join(1, 1)).with(x -> x.addFile(1, 2)).with(x -> x.addFile(0, 0));
        s.with(x -> x.write(2, 0, 4, 4)).with(x -> x.addFile(0, 0)).with(x -> x.goAway(1));
        int[] drafted = {14, 7, 0, 4, 17};
        for (int place : drafted) {
            s.with(x -> x.draft(1, place / 8, place % 8, 1000 + place));
        }
        s.with(x -> x.throwAway(0, 2));
        s.due("comeBack(1)", 3, x -> x.comeBack(1));
        s.due("conflicts()", 2, x -> x.conflicts());
        s.due("conflictAt(0), the quota of 2 was filled by part 7", 0, x -> x.conflictAt(0));
        s.due("conflictAt(1), thrown away", 17, x -> x.conflictAt(1));
        s.due("read(1, 0, 7)", 1007, x -> x.read(1, 0, 7));
        s.due("read(1, 0, 4)", 1004, x -> x.read(1, 0, 4));
        s.due("leaf, the first draft", mix(14, cipher(1014, keyOfPart(1, 0, 6))), x -> x.leaf(4));
        s.due("leaf, the second draft", mix(7, cipher(1007, keyOfPart(0, 0, 7))), x -> x.leaf(5));
        s.due("goAway(1)", 1, x -> x.goAway(1));
        s.due("comeBack(1), the drafts are gone", 0, x -> x.comeBack(1));
        s.due("conflicts(), the drafts are gone", 0, x -> x.conflicts());
    }

    // ---- Exceptions ----

    private static void exceptions() {
        changesNothing();
        firstOneListed();
        noSuchPartAheadOfNotThere();
    }

    /** "A method that throws an exception changes nothing.": a scene looks for changes behind each refused call. */
    private static void changesNothing() {
        Scene s = Scene.gardenWithFile(check).with(x -> x.tell(0, 0, 5)).with(x -> x.ask(0, 0, 5));
        s.with(x -> x.addFile(1, 2)).with(x -> x.write(2, 1, 0, 1)).with(x -> x.write(2, 1, 1, 1)).with(x -> x.goAway(1));
        s.with(x -> x.draft(1, 0, 3, 9)).with(x -> x.split(0, 5, 3)).with(x -> x.collect(2, 7)).with(x -> x.show(0, 2));
        s.with(x -> x.goAway(3)).with(x -> x.draft(3, 0, 0, 1)).with(x -> x.comeBack(3)).with(x -> x.leave(0, 1, false));
        s.refused("addUser", BAD, x -> x.addUser(-1));
        s.refused("addGroup", BAD, x -> x.addGroup(0, 0));
        s.refused("join", STATE, x -> x.join(0, 0));
        s.refused("leave", BAD, x -> x.leave(0, 0, true));
        s.refused("addFile", RIGHT, x -> x.addFile(0, 2));
        s.refused("write", RIGHT, x -> x.write(2, 0, 0, 5));
        s.refused("write, the quota", STATE, x -> x.write(2, 1, 2, 5));
        s.refused("read", NONE, x -> x.read(0, 0, 1));
        s.refused("spoil", NONE, x -> x.spoil(0, 1, 1));
        s.refused("throwAway", RIGHT, x -> x.throwAway(1, 0));
        s.refused("tell", RIGHT, x -> x.tell(2, 0, 6));
        s.refused("ask", RIGHT, x -> x.ask(2, 0, 6));
        s.refused("foundAt", PLACE, x -> x.foundAt(1));
        s.refused("forget", BAD, x -> x.forget(99));
        s.refused("show", BAD, x -> x.show(0, 99));
        s.refused("meet", BAD, x -> x.meet(0, 0));
        s.refused("split", BAD, x -> x.split(0, 3, 4));
        s.refused("share", PLACE, x -> x.share(0, 6));
        s.refused("collect", BAD, x -> x.collect(2, -1));
        s.refused("goAway", STATE, x -> x.goAway(1));
        s.refused("draft", STATE, x -> x.draft(0, 0, 3, 8));
        s.refused("comeBack", STATE, x -> x.comeBack(0));
        s.refused("conflictAt", PLACE, x -> x.conflictAt(1));
    }

    /** "If several exceptions apply, the one that is listed first is thrown": the same call, with ever fewer reasons. */
    private static void firstOneListed() {
        Scene s = Scene.gardenWithFile(check).with(x -> x.leave(0, 1, false)).with(x -> x.spoil(0, 0, 1));
        s.refused("write, no user, no part, spoiled", NONE, x -> x.write(9, 0, 8, 5));
        s.refused("write, no part, no member, spoiled", BAD, x -> x.write(1, 0, 8, 5));
        s.refused("write, no member, spoiled", RIGHT, x -> x.write(1, 0, 0, 5));
        s.refused("write, spoiled", STATE, x -> x.write(0, 0, 0, 5));
        s.refused("read, no user, no part, spoiled", NONE, x -> x.read(9, 0, 8));
        s.refused("read, not there, spoiled, no key", NONE, x -> x.read(3, 0, 1));
        s.refused("read, no part, spoiled, no key", BAD, x -> x.read(3, 0, 8));
        s.refused("read, spoiled, no key", STATE, x -> x.read(3, 0, 0));
        s.refused("leave, no group, no member", NONE, x -> x.leave(9, 1, true));
        s.refused("share, no user, not split", NONE, x -> x.share(9, 0));
        s.refused("share, not split, no place", STATE, x -> x.share(0, 0));
        s.refused("proofAt, not so many, no place", BAD, x -> x.proofAt(99, 99, -1));
        s.refused("prefixAt, not so many, no place", BAD, x -> x.prefixAt(0, 99, -1));
        s.refused("draft, no file, no part, not away", NONE, x -> x.draft(0, 9, 8, 5));
        s.refused("draft, no part, not away", BAD, x -> x.draft(0, 0, 8, 5));
        s.refused("ask, no group, no word", NONE, x -> x.ask(3, 9, 100));
        s.refused("ask, no word, no key", BAD, x -> x.ask(3, 0, 100));
        s.refused("meet, no users, both the same", NONE, x -> x.meet(9, 9));
    }

    /** "but a part that is not from 0 to 7 is no such part, and not one that is not there" */
    private static void noSuchPartAheadOfNotThere() {
        Scene s = Scene.gardenWithFile(check);
        for (int part : new int[] {-1, 8}) {
            s.refused("read(0, 0, " + part + ")", BAD, x -> x.read(0, 0, part));
            s.refused("canRead(0, 0, " + part + ")", BAD, x -> x.canRead(0, 0, part));
            s.refused("canReadByGrants(0, 0, " + part + ")", BAD, x -> x.canReadByGrants(0, 0, part));
            s.refused("cipher(0, " + part + ")", BAD, x -> x.cipher(0, part));
            s.refused("version(0, " + part + ")", BAD, x -> x.version(0, part));
            s.refused("writes(0, " + part + ")", BAD, x -> x.writes(0, part));
            s.refused("spoil(0, " + part + ", 1)", BAD, x -> x.spoil(0, part, 1));
        }
        s.refused("read(0, 0, 7), not there", NONE, x -> x.read(0, 0, 7));
        s.refused("canRead(0, 0, 7), not there", NONE, x -> x.canRead(0, 0, 7));
        s.refused("canReadByGrants(0, 0, 7), not there", NONE, x -> x.canReadByGrants(0, 0, 7));
        s.refused("cipher(0, 7), not there", NONE, x -> x.cipher(0, 7));
        s.refused("version(0, 7), not there", NONE, x -> x.version(0, 7));
        s.refused("spoil(0, 7, 1), not there", NONE, x -> x.spoil(0, 7, 1));
        s.due("writes(0, 7), not there", 0, x -> x.writes(0, 7));
    }
}
