import java.util.NoSuchElementException;

/** A test for each sentence of promise 5 and of "Leaving" that names a boundary. */
public final class BoundsOfLeavingTest {
    private static final Class<NoSuchElementException> NONE = NoSuchElementException.class;
    private static final Class<IllegalArgumentException> BAD = IllegalArgumentException.class;
    private static final Class<IllegalStateException> STATE = IllegalStateException.class;
    private static final Check check = new Check("BoundsOfLeavingTest");

    public static void main(String[] args) {
        noSuchGroup();
        noMember();
        owner();
        fullLog();
        reasonsOfLeave();
        epochIncreasesByOne();
        notAtOnce();
        whichFilesAreTurned();
        filesWithoutParts();
        spoiledFilesStay();
        thrownAwayFilesStay();
        firstAndLastFileAndPart();
        noFiles();
        thatIsNoWrite();
        turnedAtOnceAndLater();
        check.end();
    }

    /** "Throws NoSuchElementException if there is no such group" */
    private static void noSuchGroup() {
        Scene s = Scene.garden(check);
        for (int group : new int[] {-1, 2, 5, Integer.MIN_VALUE, Integer.MAX_VALUE}) {
            s.refused("leave(" + group + ", 1, true)", NONE, x -> x.leave(group, 1, true));
            s.refused("leave(" + group + ", 1, false)", NONE, x -> x.leave(group, 1, false));
        }
        s.with(x -> x.join(1, 3));
        s.due("leave(1, 3, true), the last group", 0, x -> x.leave(1, 3, true));
        s.due("leave(0, 1, true), the first group", 0, x -> x.leave(0, 1, true));
    }

    /** "or the user is no member" */
    private static void noMember() {
        Scene s = Scene.garden(check);
        s.refused("leave(0, 3, true), never a member", NONE, x -> x.leave(0, 3, true));
        s.refused("leave(0, 2, false), a member of another group", NONE, x -> x.leave(0, 2, false));
        for (int user : new int[] {-1, 4, 6, Integer.MIN_VALUE, Integer.MAX_VALUE}) {
            s.refused("leave(0, " + user + ", true), no user", NONE, x -> x.leave(0, user, true));
        }
        s.due("leave(0, 1, false)", 0, x -> x.leave(0, 1, false));
        s.refused("leave(0, 1, false), who left", NONE, x -> x.leave(0, 1, false));
        s.with(x -> x.join(0, 1));
        s.due("leave(0, 1, true), a member again", 0, x -> x.leave(0, 1, true));
    }

    /** "Throws IllegalArgumentException if the user is the owner" */
    private static void owner() {
        Scene s = Scene.gardenWithFile(check);
        s.refused("leave(0, 0, true)", BAD, x -> x.leave(0, 0, true));
        s.refused("leave(0, 0, false)", BAD, x -> x.leave(0, 0, false));
        s.refused("leave(1, 2, true), alone", BAD, x -> x.leave(1, 2, true));
        s.with(x -> x.join(1, 0));
        s.due("leave(1, 0, true), the owner of another group", 0, x -> x.leave(1, 0, true));
    }

    /** "Throws IllegalStateException if there are 300 leaves" */
    private static void fullLog() {
        Scene s = Scene.gardenWithFile(check).with(x -> x.join(0, 3)).withLeaves(299);
        s.due("leave(0, 1, true), 299 leaves", 1, x -> x.leave(0, 1, true));
        s.due("leaves()", 300, x -> x.leaves());
        s.due("leaf(299)", Model.mix(200, 1), x -> x.leaf(299));
        s.refused("leave(0, 3, true), 300 leaves", STATE, x -> x.leave(0, 3, true));
        s.refused("leave(0, 3, false), 300 leaves", STATE, x -> x.leave(0, 3, false));
        s.with(x -> x.forget(299));
        s.due("leave(0, 3, false), 299 leaves", 0, x -> x.leave(0, 3, false));
    }

    private static void reasonsOfLeave() {
        Scene s = Scene.gardenWithFile(check);
        s.refused("no group, its owner", NONE, x -> x.leave(2, 0, true));
        s.withLeaves(300);
        s.refused("300 leaves, no group", NONE, x -> x.leave(2, 1, true));
        s.refused("300 leaves, no member", NONE, x -> x.leave(0, 3, true));
        s.refused("300 leaves, no user", NONE, x -> x.leave(0, 4, false));
        s.refused("300 leaves, the owner", BAD, x -> x.leave(0, 0, true));
        s.refused("300 leaves, the owner, not at once", BAD, x -> x.leave(0, 0, false));
    }

    /** "When a user leaves a group, its epoch increases by 1." */
    private static void epochIncreasesByOne() {
        Scene s = Scene.garden(check).with(x -> x.join(1, 1)).with(x -> x.join(1, 3));
        s.due("leave(1, 1, false)", 0, x -> x.leave(1, 1, false));
        s.due("epoch(1)", 1, x -> x.epoch(1));
        s.due("leave(1, 3, true)", 0, x -> x.leave(1, 3, true));
        s.due("epoch(1), two left", 2, x -> x.epoch(1));
        s.due("epoch(0), nobody left", 0, x -> x.epoch(0));
        s.due("isMember(0, 1), still there", true, x -> x.isMember(0, 1));
        s.due("isMember(1, 1)", false, x -> x.isMember(1, 1));
    }

    /** "Otherwise, this is left to the next write." */
    private static void notAtOnce() {
        Scene s = Scene.gardenWithFile(check).with(x -> x.write(0, 0, 7, 77));
        int cipher = s.number(x -> x.cipher(0, 0));
        int mark = s.number(x -> x.mark(0));
        s.due("leave(0, 1, false)", 0, x -> x.leave(0, 1, false));
        s.due("version(0, 0)", 0, x -> x.version(0, 0));
        s.due("cipher(0, 0)", cipher, x -> x.cipher(0, 0));
        s.due("mark(0)", mark, x -> x.mark(0));
        s.due("canRead(1, 0, 0), not yet written anew", true, x -> x.canRead(1, 0, 0));
        s.due("the next write", 1, x -> x.write(0, 0, 7, 78));
        s.due("canRead(1, 0, 7)", false, x -> x.canRead(1, 0, 7));
        s.due("canRead(1, 0, 0), not written", true, x -> x.canRead(1, 0, 0));
        s.due("version(0, 0), not written", 0, x -> x.version(0, 0));
    }

    /** "the key of each file of the group ... is turned" */
    private static void whichFilesAreTurned() {
        Scene s = Scene.gardenWithFile(check).with(x -> x.write(0, 0, 7, 77)).with(x -> x.addFile(1, 2));
        s.with(x -> x.write(2, 1, 0, 5)).with(x -> x.addFile(0, 1)).with(x -> x.write(1, 2, 3, 6));
        int other = s.number(x -> x.cipher(1, 0));
        int otherMark = s.number(x -> x.mark(1));
        s.due("leave(0, 1, true)", 3, x -> x.leave(0, 1, true));
        s.due("version(0, 0)", 1, x -> x.version(0, 0));
        s.due("version(0, 7)", 1, x -> x.version(0, 7));
        s.due("version(2, 3)", 1, x -> x.version(2, 3));
        s.due("cipher(0, 0)", Model.seal(70, Model.keyOfPart(0, 1, 0)), x -> x.cipher(0, 0));
        s.due("cipher(0, 7)", Model.seal(77, Model.keyOfPart(0, 1, 7)), x -> x.cipher(0, 7));
        s.due("cipher(2, 3)", Model.seal(6, Model.keyOfPart(2, 1, 3)), x -> x.cipher(2, 3));
        s.due("mark(2), found anew", markOf(2, Model.seal(6, Model.keyOfPart(2, 1, 3)), 3), x -> x.mark(2));
        s.due("version(1, 0), a file of another group", 0, x -> x.version(1, 0));
        s.due("cipher(1, 0), a file of another group", other, x -> x.cipher(1, 0));
        s.due("mark(1), a file of another group", otherMark, x -> x.mark(1));
        s.due("its next write", 0, x -> x.write(2, 1, 0, 5));
        s.due("isSound()", true, x -> x.isSound());
    }

    private static int markOf(int file, int cipher, int part) {
        return Model.mix(Model.mix(6, file), cipher ^ part);
    }

    private static void filesWithoutParts() {
        Scene s = Scene.garden(check).with(x -> x.addFile(0, 0));
        s.due("leave(0, 1, true), no parts", 0, x -> x.leave(0, 1, true));
        s.due("mark(0)", Model.mix(6, 0), x -> x.mark(0));
        s.due("status(0)", 'o', x -> x.status(0));
        s.due("the key was turned once", 1, x -> x.write(0, 0, 0, 5));
        s.due("who left cannot read", false, x -> x.canRead(1, 0, 0));
    }

    /** "neither thrown away nor spoiled": by bits, by no bits, and by bits that were taken back. */
    private static void spoiledFilesStay() {
        Scene s = Scene.gardenWithFile(check).with(x -> x.write(0, 0, 1, 71));
        for (int file = 1; file < 3; file++) {
            int own = file;
            s.with(x -> x.addFile(0, 0)).with(x -> x.write(0, own, 4, 80 + own));
        }
        s.with(x -> x.spoil(0, 1, 1)).with(x -> x.spoil(1, 4, 0)).with(x -> x.spoil(2, 4, -1)).with(x -> x.spoil(2, 4, -1));
        int cipher = s.number(x -> x.cipher(0, 1));
        int mark = s.number(x -> x.mark(0));
        s.due("leave(0, 1, true), one of three spoiled", 2, x -> x.leave(0, 1, true));
        s.due("version(0, 0), spoiled", 0, x -> x.version(0, 0));
        s.due("cipher(0, 1), spoiled", cipher, x -> x.cipher(0, 1));
        s.due("mark(0), spoiled", mark, x -> x.mark(0));
        s.due("status(0), spoiled", 's', x -> x.status(0));
        s.due("version(1, 4), by no bits", 1, x -> x.version(1, 4));
        s.due("version(2, 4), taken back", 1, x -> x.version(2, 4));
        s.with(x -> x.spoil(0, 1, 1));
        s.due("canRead(1, 0, 1), as before", true, x -> x.canRead(1, 0, 1));
        s.due("the key is turned by the next write", 1, x -> x.write(0, 0, 1, 72));
    }

    private static void thrownAwayFilesStay() {
        Scene s = Scene.gardenWithFile(check);
        for (int file = 1; file < 4; file++) {
            int own = file;
            s.with(x -> x.addFile(0, 0)).with(x -> x.write(0, own, 4, 80 + own));
        }
        s.with(x -> x.throwAway(0, 0)).with(x -> x.spoil(1, 4, 1)).with(x -> x.throwAway(0, 1));
        int cipher = s.number(x -> x.cipher(0, 0));
        int mark = s.number(x -> x.mark(0));
        s.due("leave(0, 1, true), two of four thrown away", 2, x -> x.leave(0, 1, true));
        s.due("version(0, 0), thrown away", 0, x -> x.version(0, 0));
        s.due("cipher(0, 0), thrown away", cipher, x -> x.cipher(0, 0));
        s.due("mark(0), thrown away", mark, x -> x.mark(0));
        s.due("version(1, 4), thrown away and spoiled", 0, x -> x.version(1, 4));
        s.due("version(2, 4)", 1, x -> x.version(2, 4));
        s.due("version(3, 4)", 1, x -> x.version(3, 4));
        s.with(x -> x.purge()).with(x -> x.join(0, 1));
        s.due("leave(0, 1, true), purged", 2, x -> x.leave(0, 1, true));
        s.due("mark(0), purged", mark, x -> x.mark(0));
    }

    /** As many files and parts as there can be, all of them written anew. */
    private static void firstAndLastFileAndPart() {
        Scene s = new Scene(check).with(x -> x.addUser(1)).with(x -> x.addUser(2)).with(x -> x.addGroup(0, 40));
        s.with(x -> x.join(0, 1));
        for (int i = 0; i < 20; i++) {
            int file = i;
            s.with(x -> x.addFile(0, 0)).with(x -> x.write(0, file, 0, file)).with(x -> x.write(0, file, 7, -file));
        }
        s.due("leave(0, 1, true), 40 parts", 40, x -> x.leave(0, 1, true));
        s.due("leaves(), one for leaving", 42, x -> x.leaves());
        for (int file : new int[] {0, 19}) {
            for (int part : new int[] {0, 7}) {
                int value = part == 0 ? file : -file;
                int cipher = Model.seal(value, Model.keyOfPart(file, 1, part));
                s.due("cipher(" + file + ", " + part + ")", cipher, x -> x.cipher(file, part));
                s.due("read(0, " + file + ", " + part + ")", value, x -> x.read(0, file, part));
                s.due("canRead(1, " + file + ", " + part + ")", false, x -> x.canRead(1, file, part));
            }
        }
        s.due("isSound()", true, x -> x.isSound());
    }

    private static void noFiles() {
        Scene s = Scene.garden(check);
        s.due("leave(0, 1, true), no files at all", 0, x -> x.leave(0, 1, true));
        s.with(x -> x.addFile(1, 2)).with(x -> x.write(2, 0, 0, 1)).with(x -> x.join(0, 1));
        s.due("leave(0, 1, true), none in this group", 0, x -> x.leave(0, 1, true));
        s.due("version(0, 0)", 0, x -> x.version(0, 0));
    }

    /** "that is no write": neither for the log, nor for the number of writes, nor for the quota. */
    private static void thatIsNoWrite() {
        Scene s = Scene.garden(check).with(x -> x.join(1, 1)).with(x -> x.addFile(1, 2));
        s.with(x -> x.write(2, 0, 0, 1)).with(x -> x.write(2, 0, 1, 2));
        s.with(x -> x.goAway(2)).with(x -> x.draft(2, 0, 0, 3));
        s.due("leave(1, 1, true), as many parts as the quota", 2, x -> x.leave(1, 1, true));
        s.due("writes(0, 0)", 1, x -> x.writes(0, 0));
        s.due("parts(1)", 2, x -> x.parts(1));
        s.due("leaves()", 5, x -> x.leaves());
        s.due("leaf(4)", Model.mix(201, 1), x -> x.leaf(4));
        s.due("a draft from before it is no conflict", 1, x -> x.comeBack(2));
        s.due("version(0, 0), not turned again", 1, x -> x.version(0, 0));
    }

    /** Each leaving at once turns the key by 1, though no write came between; one left to the next write adds none. */
    private static void turnedAtOnceAndLater() {
        Scene s = Scene.gardenWithFile(check).with(x -> x.join(0, 2)).with(x -> x.join(0, 3));
        s.with(x -> x.leave(0, 1, false));
        s.due("leave(0, 2, true)", 1, x -> x.leave(0, 2, true));
        s.due("version(0, 0), two left", 1, x -> x.version(0, 0));
        s.due("leave(0, 3, true)", 1, x -> x.leave(0, 3, true));
        s.due("version(0, 0), three left", 2, x -> x.version(0, 0));
        s.due("write(0, 0, 0, 5), the same epoch", 2, x -> x.write(0, 0, 0, 5));
        s.due("canRead(3, 0, 0)", false, x -> x.canRead(3, 0, 0));
    }
}
