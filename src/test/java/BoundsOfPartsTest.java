import java.util.NoSuchElementException;

/** A test for each sentence of promises 11 to 15 and 17 to 21 and of "Files" and "Marks" that names a boundary. */
public final class BoundsOfPartsTest {
    private static final Class<NoSuchElementException> NONE = NoSuchElementException.class;
    private static final Class<IllegalArgumentException> BAD = IllegalArgumentException.class;
    private static final Class<IllegalStateException> STATE = IllegalStateException.class;
    private static final Class<UnsupportedOperationException> RIGHT = UnsupportedOperationException.class;
    private static final int LOWEST = Integer.MIN_VALUE;
    private static final int HIGHEST = Integer.MAX_VALUE;
    private static final int[] NO_USERS = {-1, 4, 5, 6, LOWEST, HIGHEST};
    private static final int[] NO_FILES = {-1, 1, 19, 20, LOWEST, HIGHEST};
    private static final int[] NO_PARTS = {-1, 8, 9, LOWEST, HIGHEST};
    private static final Check check = new Check("BoundsOfPartsTest");

    public static void main(String[] args) {
        noSuchUserOrFileToRead();
        partNotThereToRead();
        noSuchPartToRead();
        readInFileThrownAwayOrSpoiled();
        readByWhoCannot();
        reasonsOfRead();
        whoCanReadOfNone();
        whoCanReadBesides();
        whoCanReadByEpoch();
        cipherAndVersionOfNone();
        markOfNone();
        markAtFirst();
        markOfParts();
        markAndPurge();
        spoilNone();
        spoilByBits();
        statusOfFile();
        throwAwayNone();
        throwAwayByNoOwner();
        throwAwayAgain();
        throwAwayWithFullLog();
        reasonsOfThrowAway();
        partsOfFileThrownAway();
        purge();
        check.end();
    }

    // ---- read ----

    /** "Throws NoSuchElementException if there is no such user or file" */
    private static void noSuchUserOrFileToRead() {
        Scene s = Scene.gardenWithFile(check);
        for (int user : NO_USERS) {
            s.refused("read(" + user + ", 0, 0)", NONE, x -> x.read(user, 0, 0));
        }
        for (int file : NO_FILES) {
            s.refused("read(0, " + file + ", 0)", NONE, x -> x.read(0, file, 0));
        }
        s.due("read(0, 0, 0)", 70, x -> x.read(0, 0, 0));
        s.due("read(1, 0, 0)", 70, x -> x.read(1, 0, 0));
    }

    /** "or the part is not there" */
    private static void partNotThereToRead() {
        Scene s = Scene.gardenWithFile(check).with(x -> x.write(0, 0, 6, 76));
        for (int part : new int[] {1, 5, 7}) {
            s.refused("read(0, 0, " + part + ")", NONE, x -> x.read(0, 0, part));
            s.refused("read(3, 0, " + part + "), who cannot read", NONE, x -> x.read(3, 0, part));
        }
        s.due("read(0, 0, 6)", 76, x -> x.read(0, 0, 6));
        s.with(x -> x.throwAway(0, 0));
        s.refused("read(0, 0, 7), thrown away", NONE, x -> x.read(0, 0, 7));
        s.with(x -> x.purge());
        s.refused("read(0, 0, 6), purged", NONE, x -> x.read(0, 0, 6));
    }

    /** "Throws IllegalArgumentException if there is no such part"; such a part "is ... not one that is not there" */
    private static void noSuchPartToRead() {
        Scene s = Scene.gardenWithFile(check);
        for (int part : NO_PARTS) {
            s.refused("read(0, 0, " + part + ")", BAD, x -> x.read(0, 0, part));
            s.refused("canRead(0, 0, " + part + ")", BAD, x -> x.canRead(0, 0, part));
            s.refused("canReadByGrants(0, 0, " + part + ")", BAD, x -> x.canReadByGrants(0, 0, part));
            s.refused("cipher(0, " + part + ")", BAD, x -> x.cipher(0, part));
            s.refused("version(0, " + part + ")", BAD, x -> x.version(0, part));
            s.refused("spoil(0, " + part + ", 1)", BAD, x -> x.spoil(0, part, 1));
        }
    }

    /** "Throws IllegalStateException if the file is thrown away or spoiled" */
    private static void readInFileThrownAwayOrSpoiled() {
        Scene s = Scene.gardenWithFile(check).with(x -> x.write(0, 0, 1, 71)).with(x -> x.addFile(0, 0));
        s.with(x -> x.write(0, 1, 0, 80)).with(x -> x.spoil(0, 1, 1));
        s.refused("read(0, 0, 1), spoiled", STATE, x -> x.read(0, 0, 1));
        s.refused("read(0, 0, 0), another part is spoiled", STATE, x -> x.read(0, 0, 0));
        s.due("read(0, 1, 0), another file", 80, x -> x.read(0, 1, 0));
        s.with(x -> x.spoil(0, 1, 1));
        s.due("read(0, 0, 1), taken back", 71, x -> x.read(0, 0, 1));
        s.with(x -> x.spoil(0, 1, 0));
        s.due("read(0, 0, 1), spoiled by no bits", 71, x -> x.read(0, 0, 1));
        s.with(x -> x.throwAway(0, 0));
        s.refused("read(0, 0, 1), thrown away", STATE, x -> x.read(0, 0, 1));
        s.due("read(1, 1, 0), another file", 80, x -> x.read(1, 1, 0));
    }

    /** "Throws UnsupportedOperationException if the user cannot read it" */
    private static void readByWhoCannot() {
        Scene s = Scene.gardenWithFile(check).with(x -> x.write(0, 0, 1, 71));
        s.refused("read(3, 0, 0), never a member", RIGHT, x -> x.read(3, 0, 0));
        s.refused("read(2, 0, 0), a member of another group", RIGHT, x -> x.read(2, 0, 0));
        s.with(x -> x.leave(0, 1, false));
        s.due("read(1, 0, 0), who left", 70, x -> x.read(1, 0, 0));
        s.with(x -> x.write(0, 0, 0, 72));
        s.refused("read(1, 0, 0), written after leaving", RIGHT, x -> x.read(1, 0, 0));
        s.due("read(1, 0, 1), written before", 71, x -> x.read(1, 0, 1));
        s.with(x -> x.join(0, 1)).with(x -> x.goAway(1));
        s.due("read(1, 0, 0), a member who is away", 72, x -> x.read(1, 0, 0));
    }

    private static void reasonsOfRead() {
        Scene s = Scene.gardenWithFile(check).with(x -> x.spoil(0, 0, 1));
        s.refused("no user, no part", NONE, x -> x.read(4, 0, 8));
        s.refused("no file, no part", NONE, x -> x.read(0, 1, -1));
        s.refused("no user, spoiled", NONE, x -> x.read(4, 0, 0));
        s.refused("not there, spoiled", NONE, x -> x.read(0, 0, 1));
        s.refused("not there, spoiled, who cannot read", NONE, x -> x.read(3, 0, 1));
        s.refused("no part, spoiled", BAD, x -> x.read(0, 0, 8));
        s.refused("no part, who cannot read", BAD, x -> x.read(3, 0, 8));
        s.refused("spoiled, who cannot read", STATE, x -> x.read(3, 0, 0));
        s.with(x -> x.throwAway(0, 0));
        s.refused("thrown away, who cannot read", STATE, x -> x.read(3, 0, 0));
        s.refused("thrown away, no part", BAD, x -> x.read(3, 0, 8));
        s.refused("thrown away, not there", NONE, x -> x.read(3, 0, 2));
    }

    // ---- canRead, canReadByGrants ----

    /** "Throws NoSuchElementException if there is no such user or file, or the part is not there" */
    private static void whoCanReadOfNone() {
        Scene s = Scene.gardenWithFile(check);
        for (int user : NO_USERS) {
            s.refused("canRead(" + user + ", 0, 0)", NONE, x -> x.canRead(user, 0, 0));
            s.refused("canReadByGrants(" + user + ", 0, 0)", NONE, x -> x.canReadByGrants(user, 0, 0));
            s.refused("canRead(" + user + ", 0, 8)", NONE, x -> x.canRead(user, 0, 8));
            s.refused("canReadByGrants(" + user + ", 0, 8)", NONE, x -> x.canReadByGrants(user, 0, 8));
        }
        for (int file : NO_FILES) {
            s.refused("canRead(0, " + file + ", 0)", NONE, x -> x.canRead(0, file, 0));
            s.refused("canReadByGrants(0, " + file + ", 0)", NONE, x -> x.canReadByGrants(0, file, 0));
            s.refused("canRead(0, " + file + ", -1)", NONE, x -> x.canRead(0, file, -1));
            s.refused("canReadByGrants(0, " + file + ", -1)", NONE, x -> x.canReadByGrants(0, file, -1));
        }
        for (int part : new int[] {1, 7}) {
            s.refused("canRead(0, 0, " + part + ")", NONE, x -> x.canRead(0, 0, part));
            s.refused("canReadByGrants(0, 0, " + part + ")", NONE, x -> x.canReadByGrants(0, 0, part));
        }
        s.with(x -> x.throwAway(0, 0)).with(x -> x.purge());
        s.refused("canRead(0, 0, 0), purged", NONE, x -> x.canRead(0, 0, 0));
        s.refused("canReadByGrants(0, 0, 0), purged", NONE, x -> x.canReadByGrants(0, 0, 0));
        s.refused("canRead(0, 0, 8), purged", BAD, x -> x.canRead(0, 0, 8));
        s.refused("canReadByGrants(0, 0, 8), purged", BAD, x -> x.canReadByGrants(0, 0, 8));
    }

    /** "whether or not the file is spoiled or thrown away" */
    private static void whoCanReadBesides() {
        Scene s = Scene.gardenWithFile(check).with(x -> x.spoil(0, 0, 1));
        bothWays(s, "spoiled", 0, 0, true);
        bothWays(s, "spoiled", 3, 0, false);
        s.with(x -> x.throwAway(0, 0));
        bothWays(s, "thrown away", 1, 0, true);
        bothWays(s, "thrown away", 3, 0, false);
        s.with(x -> x.join(0, 3));
        bothWays(s, "joined after it was thrown away", 3, 0, true);
        s.with(x -> x.leave(0, 3, true));
        bothWays(s, "left after it was thrown away", 3, 0, true);
    }

    private static void bothWays(Scene s, String told, int user, int part, boolean want) {
        s.due("canRead(" + user + ", 0, " + part + "), " + told, want, x -> x.canRead(user, 0, part));
        s.due("canReadByGrants(" + user + ", 0, " + part + "), " + told, want, x -> x.canReadByGrants(user, 0, part));
    }

    /** "A user can read a part if they know the key of the epoch in which its version began." */
    private static void whoCanReadByEpoch() {
        Scene s = Scene.gardenWithFile(check).with(x -> x.join(0, 3)).with(x -> x.leave(0, 3, false));
        bothWays(s, "left in epoch 0, written in it", 3, 0, true);
        s.with(x -> x.write(0, 0, 1, 71));
        bothWays(s, "left in epoch 0, written in 1", 3, 1, false);
        bothWays(s, "a member in epoch 1, written in it", 1, 1, true);
        s.with(x -> x.leave(0, 1, false));
        bothWays(s, "left in epoch 1, written in it", 1, 1, true);
        s.with(x -> x.write(0, 0, 1, 72));
        bothWays(s, "left in epoch 1, written in 2", 1, 1, false);
        bothWays(s, "left in epoch 1, written in 0", 1, 0, true);
        bothWays(s, "never a member", 2, 0, false);
        s.with(x -> x.join(0, 3));
        bothWays(s, "a member again, written while outside", 3, 1, true);
        s.with(x -> x.leave(0, 3, true));
        bothWays(s, "left again, written anew at once", 3, 1, false);
        bothWays(s, "left again, written anew at once", 3, 0, false);
        bothWays(s, "the owner", 0, 0, true);
        s.due("isSound()", true, x -> x.isSound());
    }

    // ---- cipher, version, mark ----

    /** "Throws NoSuchElementException if there is no such file, or the part is not there" */
    private static void cipherAndVersionOfNone() {
        Scene s = Scene.gardenWithFile(check).with(x -> x.write(0, 0, 7, 77));
        for (int file : NO_FILES) {
            s.refused("cipher(" + file + ", 0)", NONE, x -> x.cipher(file, 0));
            s.refused("version(" + file + ", 0)", NONE, x -> x.version(file, 0));
            s.refused("cipher(" + file + ", 8)", NONE, x -> x.cipher(file, 8));
            s.refused("version(" + file + ", -1)", NONE, x -> x.version(file, -1));
        }
        for (int part : new int[] {1, 6}) {
            s.refused("cipher(0, " + part + ")", NONE, x -> x.cipher(0, part));
            s.refused("version(0, " + part + ")", NONE, x -> x.version(0, part));
        }
        s.due("cipher(0, 7)", Model.seal(77, Model.keyOfPart(0, 0, 7)), x -> x.cipher(0, 7));
        s.due("version(0, 7)", 0, x -> x.version(0, 7));
        s.with(x -> x.throwAway(0, 0));
        s.due("cipher(0, 0), thrown away", Model.seal(70, Model.keyOfPart(0, 0, 0)), x -> x.cipher(0, 0));
        s.due("version(0, 0), thrown away", 0, x -> x.version(0, 0));
        s.with(x -> x.purge());
        s.refused("cipher(0, 0), purged", NONE, x -> x.cipher(0, 0));
        s.refused("version(0, 0), purged", NONE, x -> x.version(0, 0));
        s.refused("cipher(0, 8), purged", BAD, x -> x.cipher(0, 8));
        s.refused("version(0, 8), purged", BAD, x -> x.version(0, 8));
    }

    /** "Throws NoSuchElementException if there is no such file" */
    private static void markOfNone() {
        Scene s = Scene.gardenWithFile(check);
        for (int file : NO_FILES) {
            s.refused("mark(" + file + ")", NONE, x -> x.mark(file));
        }
    }

    /** "The mark is kept, at first as that of a file without parts" */
    private static void markAtFirst() {
        Scene s = Scene.garden(check);
        for (int i = 0; i < 20; i++) {
            int file = i;
            s.with(x -> x.addFile(0, 0));
            s.due("mark(" + file + "), no parts", Model.mix(6, file), x -> x.mark(file));
            s.due("status(" + file + "), no parts", 'o', x -> x.status(file));
        }
    }

    /** "by the mix of what was found so far and of the cipher of each part that is there exclusive-or with its number" */
    private static void markOfParts() {
        Scene s = Scene.gardenWithFile(check);
        int mark = Model.mix(6, 0);
        int first = s.number(x -> x.cipher(0, 0));
        s.due("mark(0), part 0", Model.mix(mark, first), x -> x.mark(0));
        s.with(x -> x.write(0, 0, 7, 77));
        int last = s.number(x -> x.cipher(0, 7));
        s.due("mark(0), parts 0 and 7", Model.mix(Model.mix(mark, first), last ^ 7), x -> x.mark(0));
        s.with(x -> x.write(0, 0, 3, 73));
        int between = s.number(x -> x.cipher(0, 3));
        int all = Model.mix(Model.mix(Model.mix(mark, first), between ^ 3), last ^ 7);
        s.due("mark(0), parts 0, 3 and 7", all, x -> x.mark(0));
        for (int i = 0; i < 8; i++) {
            int part = i;
            s.with(x -> x.write(0, 0, part, LOWEST + part));
            mark = Model.mix(mark, Model.seal(LOWEST + part, Model.keyOfPart(0, 0, part)) ^ part);
        }
        s.due("mark(0), all parts", mark, x -> x.mark(0));
    }

    /** "but not by purging" */
    private static void markAndPurge() {
        Scene s = Scene.gardenWithFile(check).with(x -> x.addFile(0, 0)).with(x -> x.write(0, 1, 0, 80));
        int mark = s.number(x -> x.mark(0));
        int other = s.number(x -> x.mark(1));
        s.with(x -> x.throwAway(0, 0));
        s.due("mark(0), thrown away", mark, x -> x.mark(0));
        s.due("purge()", 1, x -> x.purge());
        s.due("mark(0), purged", mark, x -> x.mark(0));
        s.due("status(0), purged", 'x', x -> x.status(0));
        s.due("mark(1)", other, x -> x.mark(1));
        s.due("isSound()", true, x -> x.isSound());
    }

    // ---- spoil, status ----

    /** "Throws NoSuchElementException if there is no such file, or the part is not there" */
    private static void spoilNone() {
        Scene s = Scene.gardenWithFile(check);
        for (int file : NO_FILES) {
            s.refused("spoil(" + file + ", 0, 1)", NONE, x -> x.spoil(file, 0, 1));
            s.refused("spoil(" + file + ", 8, 1)", NONE, x -> x.spoil(file, 8, 1));
        }
        for (int part : new int[] {1, 7}) {
            s.refused("spoil(0, " + part + ", 1)", NONE, x -> x.spoil(0, part, 1));
        }
        s.with(x -> x.throwAway(0, 0)).with(x -> x.purge());
        s.refused("spoil(0, 0, 1), purged", NONE, x -> x.spoil(0, 0, 1));
        s.refused("spoil(0, -1, 1), purged", BAD, x -> x.spoil(0, -1, 1));
    }

    /** "its cipher becomes another one, and the kept mark stays"; no bits, one bit, all bits */
    private static void spoilByBits() {
        Scene s = Scene.gardenWithFile(check);
        int cipher = s.number(x -> x.cipher(0, 0));
        int mark = s.number(x -> x.mark(0));
        s.due("spoil(0, 0, 0)", cipher, x -> x.spoil(0, 0, 0));
        s.due("status(0), no bits", 'o', x -> x.status(0));
        for (int bits : new int[] {1, LOWEST, HIGHEST, -1}) {
            s.due("spoil by " + bits, cipher ^ bits, x -> x.spoil(0, 0, bits));
            s.due("cipher(0, 0)", cipher ^ bits, x -> x.cipher(0, 0));
            s.due("status(0), spoiled", 's', x -> x.status(0));
            s.due("mark(0), spoiled", mark, x -> x.mark(0));
            s.due("spoil by " + bits + " again", cipher, x -> x.spoil(0, 0, bits));
            s.due("status(0), taken back", 'o', x -> x.status(0));
        }
        s.due("leaves(), spoiling tells the log nothing", 2, x -> x.leaves());
        s.due("writes(0, 0), spoiling is no write", 1, x -> x.writes(0, 0));
        s.with(x -> x.throwAway(0, 0));
        s.due("spoil(0, 0, 6), thrown away", cipher ^ 6, x -> x.spoil(0, 0, 6));
    }

    /** "Returns 'x' if it is thrown away, otherwise 's' if it is spoiled, otherwise 'o'." */
    private static void statusOfFile() {
        Scene s = Scene.gardenWithFile(check);
        for (int file : NO_FILES) {
            s.refused("status(" + file + ")", NONE, x -> x.status(file));
        }
        s.due("status(0)", 'o', x -> x.status(0));
        s.with(x -> x.spoil(0, 0, 1));
        s.due("status(0), spoiled", 's', x -> x.status(0));
        s.with(x -> x.throwAway(0, 0));
        s.due("status(0), spoiled and thrown away", 'x', x -> x.status(0));
        s.with(x -> x.addFile(0, 0)).with(x -> x.throwAway(0, 1));
        s.due("status(1), thrown away without parts", 'x', x -> x.status(1));
    }

    // ---- throwAway, purge ----

    /** "Throws NoSuchElementException if there is no such user or file" */
    private static void throwAwayNone() {
        Scene s = Scene.gardenWithFile(check);
        for (int user : NO_USERS) {
            s.refused("throwAway(" + user + ", 0)", NONE, x -> x.throwAway(user, 0));
        }
        for (int file : NO_FILES) {
            s.refused("throwAway(0, " + file + ")", NONE, x -> x.throwAway(0, file));
        }
    }

    /** "Throws UnsupportedOperationException if the user is not the owner of its group" */
    private static void throwAwayByNoOwner() {
        Scene s = Scene.garden(check).with(x -> x.addFile(0, 1)).with(x -> x.addFile(1, 2));
        s.refused("throwAway(1, 0), a member", RIGHT, x -> x.throwAway(1, 0));
        s.refused("throwAway(2, 0), the owner of another group", RIGHT, x -> x.throwAway(2, 0));
        s.refused("throwAway(3, 0), never a member", RIGHT, x -> x.throwAway(3, 0));
        s.refused("throwAway(0, 1), the owner of another group", RIGHT, x -> x.throwAway(0, 1));
        s.due("throwAway(2, 1)", 0, x -> x.throwAway(2, 1));
        s.with(x -> x.goAway(0));
        s.due("throwAway(0, 0), the owner is away", 0, x -> x.throwAway(0, 0));
        s.due("its leaf", Model.mix(300, 0), x -> x.leaf(2));
    }

    /** "Throws IllegalStateException if it is thrown away" */
    private static void throwAwayAgain() {
        Scene s = Scene.gardenWithFile(check).with(x -> x.throwAway(0, 0));
        s.refused("throwAway(0, 0) again", STATE, x -> x.throwAway(0, 0));
        s.with(x -> x.purge());
        s.refused("throwAway(0, 0), purged", STATE, x -> x.throwAway(0, 0));
    }

    /** "or there are 300 leaves" */
    private static void throwAwayWithFullLog() {
        Scene s = Scene.gardenWithFile(check).with(x -> x.addFile(0, 0)).withLeaves(299);
        s.due("throwAway(0, 1), 299 leaves", 0, x -> x.throwAway(0, 1));
        s.due("leaves()", 300, x -> x.leaves());
        s.due("leaf(299)", Model.mix(300, 1), x -> x.leaf(299));
        s.refused("throwAway(0, 0), 300 leaves", STATE, x -> x.throwAway(0, 0));
        s.with(x -> x.forget(299));
        s.due("throwAway(0, 0), 299 leaves again", 1, x -> x.throwAway(0, 0));
    }

    private static void reasonsOfThrowAway() {
        Scene s = Scene.gardenWithFile(check).with(x -> x.throwAway(0, 0));
        s.refused("thrown away, no user", NONE, x -> x.throwAway(4, 0));
        s.refused("thrown away, not the owner", RIGHT, x -> x.throwAway(1, 0));
        Scene full = Scene.gardenWithFile(check).withLeaves(300);
        full.refused("300 leaves, no user", NONE, x -> x.throwAway(4, 0));
        full.refused("300 leaves, no file", NONE, x -> x.throwAway(0, 1));
        full.refused("300 leaves, not the owner", RIGHT, x -> x.throwAway(1, 0));
    }

    /** "Returns the number of parts of the file." */
    private static void partsOfFileThrownAway() {
        Scene s = Scene.gardenWithFile(check).with(x -> x.addFile(0, 0)).with(x -> x.addFile(0, 0));
        for (int i = 0; i < 8; i++) {
            int part = i;
            s.with(x -> x.write(0, 1, part, 5));
        }
        s.due("throwAway(0, 1), all parts", 8, x -> x.throwAway(0, 1));
        s.due("throwAway(0, 2), no parts", 0, x -> x.throwAway(0, 2));
        s.with(x -> x.spoil(0, 0, 1));
        s.due("throwAway(0, 0), spoiled", 1, x -> x.throwAway(0, 0));
    }

    /** "Drops the parts of all files that are thrown away."; "Returns the number of parts that are dropped." */
    private static void purge() {
        Scene s = new Scene(check).with(x -> x.addUser(1)).with(x -> x.addGroup(0, 40)).with(x -> x.addGroup(0, 40));
        for (int i = 0; i < 20; i++) {
            int file = i;
            s.with(x -> x.addFile(file % 2, 0)).with(x -> x.write(0, file, 0, 5)).with(x -> x.write(0, file, 7, 5));
        }
        s.due("purge(), none thrown away", 0, x -> x.purge());
        s.with(x -> x.throwAway(0, 0)).with(x -> x.throwAway(0, 19));
        s.due("parts(0)", 20, x -> x.parts(0));
        s.due("purge(), the first and the last file", 4, x -> x.purge());
        s.due("purge() again", 0, x -> x.purge());
        s.due("parts(0), purged", 18, x -> x.parts(0));
        s.due("parts(1), purged", 18, x -> x.parts(1));
        s.due("cipher(1, 7), not thrown away", Model.seal(5, Model.keyOfPart(1, 0, 7)), x -> x.cipher(1, 7));
        s.refused("cipher(0, 0), purged", NONE, x -> x.cipher(0, 0));
        s.refused("cipher(19, 7), purged", NONE, x -> x.cipher(19, 7));
        s.with(x -> x.spoil(18, 0, 1));
        s.due("purge(), one spoiled", 0, x -> x.purge());
        s.due("leaves(), purging tells the log nothing", 42, x -> x.leaves());
        for (int i = 1; i < 19; i++) {
            int file = i;
            s.with(x -> x.throwAway(0, file));
        }
        s.due("purge(), all that are left", 36, x -> x.purge());
    }
}
