import java.util.NoSuchElementException;

/** A test for each sentence of promises 9, 10, 16 and 22 and of "Files" that names a boundary. */
public final class BoundsOfWritingTest {
    private static final Class<NoSuchElementException> NONE = NoSuchElementException.class;
    private static final Class<IllegalArgumentException> BAD = IllegalArgumentException.class;
    private static final Class<IllegalStateException> STATE = IllegalStateException.class;
    private static final Class<UnsupportedOperationException> RIGHT = UnsupportedOperationException.class;
    private static final int LOWEST = Integer.MIN_VALUE;
    private static final int HIGHEST = Integer.MAX_VALUE;
    private static final int[] NO_USERS = {-1, 4, 5, 6, LOWEST, HIGHEST};
    private static final int[] NO_GROUPS = {-1, 2, 4, 5, LOWEST, HIGHEST};
    private static final int[] NO_FILES = {-1, 1, 19, 20, LOWEST, HIGHEST};
    private static final int[] NO_PARTS = {-1, 8, 9, LOWEST, HIGHEST};
    private static final Check check = new Check("BoundsOfWritingTest");

    public static void main(String[] args) {
        noSuchGroupOrUserForFile();
        fileByNoMember();
        twentyFiles();
        reasonsOfAddFile();
        firstVersion();
        noSuchUserOrFile();
        noSuchPart();
        writeByNoMember();
        writeWhileAway();
        writeInFileThrownAway();
        writeInSpoiledFile();
        quotaOfGroup();
        lowestAndHighestQuota();
        quotaAndFilesThrownAway();
        fullLog();
        unknownBeforeNoPart();
        noPartBeforeNoMember();
        noMemberBeforeState();
        turnedAheadOfAWrite();
        writesOfPart();
        partsOfGroup();
        check.end();
    }

    // ---- addFile ----

    /** "Throws NoSuchElementException if there is no such group or user" */
    private static void noSuchGroupOrUserForFile() {
        Scene s = Scene.garden(check);
        for (int group : NO_GROUPS) {
            s.refused("addFile(" + group + ", 0)", NONE, x -> x.addFile(group, 0));
        }
        for (int user : NO_USERS) {
            s.refused("addFile(0, " + user + ")", NONE, x -> x.addFile(0, user));
        }
        s.refused("addFile(2, 4)", NONE, x -> x.addFile(2, 4));
        s.due("addFile(1, 2), the last group", 0, x -> x.addFile(1, 2));
        s.due("addFile(0, 0), the first group", 1, x -> x.addFile(0, 0));
    }

    /** "Throws UnsupportedOperationException if the user is no member" */
    private static void fileByNoMember() {
        Scene s = Scene.garden(check);
        s.refused("addFile(0, 3), never a member", RIGHT, x -> x.addFile(0, 3));
        s.refused("addFile(0, 2), a member of another group", RIGHT, x -> x.addFile(0, 2));
        s.due("addFile(0, 1), a member", 0, x -> x.addFile(0, 1));
        s.with(x -> x.leave(0, 1, true));
        s.refused("addFile(0, 1), who left", RIGHT, x -> x.addFile(0, 1));
        s.with(x -> x.join(0, 1)).with(x -> x.goAway(1));
        s.due("addFile(0, 1), a member who is away", 1, x -> x.addFile(0, 1));
    }

    /** "At most 20 files have numbers from 0"; "Throws IllegalStateException if there are 20 files" */
    private static void twentyFiles() {
        Scene s = Scene.garden(check);
        for (int i = 0; i < 20; i++) {
            int file = i;
            s.refused("mark(" + file + "), not yet", NONE, x -> x.mark(file));
            s.due("addFile, number " + file, file, x -> x.addFile(file % 2, file % 2 == 0 ? 0 : 2));
            s.due("mark(" + file + ")", Model.mix(6, file), x -> x.mark(file));
        }
        s.refused("addFile(0, 0), the 21st", STATE, x -> x.addFile(0, 0));
        s.refused("addFile(1, 2), the 21st", STATE, x -> x.addFile(1, 2));
        s.refused("mark(20)", NONE, x -> x.mark(20));
        s.due("write(2, 19, 7, 1), the last file", 0, x -> x.write(2, 19, 7, 1));
        s.due("its leaf", Model.mix(159, Model.seal(1, Model.keyOfPart(19, 0, 7))), x -> x.leaf(1));
        s.with(x -> x.throwAway(2, 19)).with(x -> x.purge());
        s.refused("addFile(1, 2), the 21st, one thrown away", STATE, x -> x.addFile(1, 2));
    }

    private static void reasonsOfAddFile() {
        Scene s = Scene.garden(check);
        for (int i = 0; i < 20; i++) {
            s.with(x -> x.addFile(0, 0));
        }
        s.refused("the 21st, no group", NONE, x -> x.addFile(2, 0));
        s.refused("the 21st, no user", NONE, x -> x.addFile(0, 4));
        s.refused("the 21st, by no member", RIGHT, x -> x.addFile(0, 3));
        s.refused("the 21st, in another group, by no member", RIGHT, x -> x.addFile(1, 0));
        s.refused("the 21st", STATE, x -> x.addFile(1, 2));
    }

    /** "has a version, 0 at first, whose epoch is that of the group when the version began" */
    private static void firstVersion() {
        Scene s = Scene.garden(check).with(x -> x.addFile(0, 0)).with(x -> x.leave(0, 1, false));
        s.with(x -> x.addFile(0, 0));
        s.due("write(0, 1, 0, 5), a file of epoch 1", 0, x -> x.write(0, 1, 0, 5));
        s.due("write(0, 0, 0, 5), a file of epoch 0", 1, x -> x.write(0, 0, 0, 5));
        s.due("canRead(1, 1, 0), who knows epoch 0", false, x -> x.canRead(1, 1, 0));
        s.due("isSound()", true, x -> x.isSound());
    }

    // ---- write ----

    /** "Throws NoSuchElementException if there is no such user or file" */
    private static void noSuchUserOrFile() {
        Scene s = Scene.gardenWithFile(check);
        for (int user : NO_USERS) {
            s.refused("write(" + user + ", 0, 0, 5)", NONE, x -> x.write(user, 0, 0, 5));
        }
        for (int file : NO_FILES) {
            s.refused("write(0, " + file + ", 0, 5)", NONE, x -> x.write(0, file, 0, 5));
        }
        s.due("write(1, 0, 0, 5)", 0, x -> x.write(1, 0, 0, 5));
    }

    /** "A file has the parts 0 to 7"; "Throws IllegalArgumentException if there is no such part" */
    private static void noSuchPart() {
        Scene s = Scene.gardenWithFile(check);
        for (int part : NO_PARTS) {
            s.refused("write(0, 0, " + part + ", 5)", BAD, x -> x.write(0, 0, part, 5));
        }
        for (int i = 0; i < 8; i++) {
            int part = i;
            s.due("write(0, 0, " + part + ", 5)", 0, x -> x.write(0, 0, part, 5));
            s.due("read(0, 0, " + part + ")", 5, x -> x.read(0, 0, part));
        }
    }

    /** "Throws UnsupportedOperationException if the user is no member of its group" */
    private static void writeByNoMember() {
        Scene s = Scene.gardenWithFile(check).with(x -> x.addFile(1, 2));
        s.refused("write(3, 0, 0, 5), never a member", RIGHT, x -> x.write(3, 0, 0, 5));
        s.refused("write(2, 0, 0, 5), a member of another group", RIGHT, x -> x.write(2, 0, 0, 5));
        s.refused("write(0, 1, 0, 5), a member of another group", RIGHT, x -> x.write(0, 1, 0, 5));
        s.due("write(1, 0, 0, 5), a member", 0, x -> x.write(1, 0, 0, 5));
        s.with(x -> x.leave(0, 1, false));
        s.refused("write(1, 0, 0, 6), who left", RIGHT, x -> x.write(1, 0, 0, 6));
        s.with(x -> x.join(0, 1));
        s.due("write(1, 0, 0, 6), a member again", 1, x -> x.write(1, 0, 0, 6));
    }

    /** "Throws IllegalStateException if the user is away" */
    private static void writeWhileAway() {
        Scene s = Scene.gardenWithFile(check).with(x -> x.goAway(1));
        s.refused("write(1, 0, 0, 5), away", STATE, x -> x.write(1, 0, 0, 5));
        s.refused("write(1, 0, 1, 5), away, a new part", STATE, x -> x.write(1, 0, 1, 5));
        s.due("write(0, 0, 0, 5), another user", 0, x -> x.write(0, 0, 0, 5));
        s.with(x -> x.comeBack(1));
        s.due("write(1, 0, 0, 6), back", 0, x -> x.write(1, 0, 0, 6));
    }

    /** "the file is thrown away" */
    private static void writeInFileThrownAway() {
        Scene s = Scene.gardenWithFile(check).with(x -> x.addFile(0, 0)).with(x -> x.throwAway(0, 0));
        s.refused("write(0, 0, 0, 5), thrown away", STATE, x -> x.write(0, 0, 0, 5));
        s.refused("write(0, 0, 1, 5), thrown away, a new part", STATE, x -> x.write(0, 0, 1, 5));
        s.with(x -> x.purge());
        s.refused("write(0, 0, 0, 5), purged", STATE, x -> x.write(0, 0, 0, 5));
        s.due("write(0, 1, 0, 5), another file", 0, x -> x.write(0, 1, 0, 5));
        s.with(x -> x.addFile(0, 0)).with(x -> x.throwAway(0, 2));
        s.refused("write(0, 2, 0, 5), thrown away without parts", STATE, x -> x.write(0, 2, 0, 5));
    }

    /** "or spoiled" */
    private static void writeInSpoiledFile() {
        Scene s = Scene.gardenWithFile(check).with(x -> x.addFile(0, 0)).with(x -> x.spoil(0, 0, LOWEST));
        s.refused("write(0, 0, 0, 5), spoiled", STATE, x -> x.write(0, 0, 0, 5));
        s.refused("write(0, 0, 1, 5), spoiled, a new part", STATE, x -> x.write(0, 0, 1, 5));
        s.due("write(0, 1, 0, 5), another file", 0, x -> x.write(0, 1, 0, 5));
        s.with(x -> x.spoil(0, 0, LOWEST));
        s.due("write(0, 0, 1, 5), taken back", 0, x -> x.write(0, 0, 1, 5));
        s.with(x -> x.spoil(0, 0, 0));
        s.due("write(0, 0, 0, 5), spoiled by no bits", 0, x -> x.write(0, 0, 0, 5));
    }

    /** "the part is not there and its group has as many parts as its quota" */
    private static void quotaOfGroup() {
        Scene s = Scene.gardenWithFile(check).with(x -> x.addFile(1, 2)).with(x -> x.addFile(1, 2));
        s.due("write(2, 1, 0, 5), the first of two", 0, x -> x.write(2, 1, 0, 5));
        s.due("write(2, 2, 7, 5), the second of two", 0, x -> x.write(2, 2, 7, 5));
        s.refused("write(2, 1, 1, 5), a third", STATE, x -> x.write(2, 1, 1, 5));
        s.refused("write(2, 2, 0, 5), a third in the other file", STATE, x -> x.write(2, 2, 0, 5));
        s.due("write(2, 1, 0, 6), there", 0, x -> x.write(2, 1, 0, 6));
        s.due("write(2, 2, 7, 6), there", 0, x -> x.write(2, 2, 7, 6));
        s.due("write(0, 0, 1, 5), another group", 0, x -> x.write(0, 0, 1, 5));
        s.due("parts(1)", 2, x -> x.parts(1));
    }

    private static void lowestAndHighestQuota() {
        Scene s = new Scene(check).with(x -> x.addUser(1)).with(x -> x.addGroup(0, 1)).with(x -> x.addGroup(0, 40));
        s.with(x -> x.addFile(0, 0));
        s.due("write(0, 0, 3, 5), the quota is 1", 0, x -> x.write(0, 0, 3, 5));
        s.refused("write(0, 0, 4, 5), the quota is 1", STATE, x -> x.write(0, 0, 4, 5));
        for (int i = 0; i < 40; i++) {
            int file = 1 + i / 8;
            int part = i % 8;
            if (part == 0) {
                s.with(x -> x.addFile(1, 0));
            }
            s.due("write, part " + (i + 1) + " of 40", 0, x -> x.write(0, file, part, 5));
        }
        s.with(x -> x.addFile(1, 0));
        s.refused("write(0, 6, 0, 5), the quota is 40", STATE, x -> x.write(0, 6, 0, 5));
        s.due("write(0, 5, 7, 6), there", 0, x -> x.write(0, 5, 7, 6));
    }

    /** "those thrown away included until they are purged" */
    private static void quotaAndFilesThrownAway() {
        Scene s = Scene.garden(check).with(x -> x.addFile(1, 2)).with(x -> x.addFile(1, 2));
        s.with(x -> x.write(2, 0, 0, 1)).with(x -> x.write(2, 0, 1, 2)).with(x -> x.throwAway(2, 0));
        s.refused("write(2, 1, 0, 5), not purged", STATE, x -> x.write(2, 1, 0, 5));
        s.with(x -> x.purge());
        s.due("write(2, 1, 0, 5), purged", 0, x -> x.write(2, 1, 0, 5));
        s.due("write(2, 1, 1, 5), purged", 0, x -> x.write(2, 1, 1, 5));
        s.refused("write(2, 1, 2, 5), a third", STATE, x -> x.write(2, 1, 2, 5));
    }

    /** "or there are 300 leaves" */
    private static void fullLog() {
        Scene s = Scene.gardenWithFile(check).withLeaves(299);
        s.due("write(0, 0, 1, 5), 299 leaves", 0, x -> x.write(0, 0, 1, 5));
        s.due("leaves()", 300, x -> x.leaves());
        s.refused("write(0, 0, 0, 6), 300 leaves", STATE, x -> x.write(0, 0, 0, 6));
        s.refused("write(0, 0, 2, 6), 300 leaves, a new part", STATE, x -> x.write(0, 0, 2, 6));
        s.with(x -> x.forget(299));
        s.due("write(0, 0, 2, 6), 299 leaves again", 0, x -> x.write(0, 0, 2, 6));
    }

    private static void unknownBeforeNoPart() {
        Scene s = Scene.gardenWithFile(check).with(x -> x.goAway(1)).with(x -> x.throwAway(0, 0));
        s.refused("no user, no part", NONE, x -> x.write(4, 0, 8, 5));
        s.refused("no file, no part", NONE, x -> x.write(0, 1, -1, 5));
        s.refused("no user, no file, no part", NONE, x -> x.write(-1, -1, -1, 5));
        s.refused("no user, thrown away", NONE, x -> x.write(4, 0, 0, 5));
        s.refused("no file, away", NONE, x -> x.write(1, 1, 0, 5));
        s.refused("no file, never a member", NONE, x -> x.write(3, 1, 0, 5));
        Scene full = Scene.gardenWithFile(check).withLeaves(300);
        full.refused("no user, 300 leaves", NONE, x -> x.write(4, 0, 0, 5));
        full.refused("no file, 300 leaves", NONE, x -> x.write(0, 1, 0, 5));
        full.refused("no part, 300 leaves", BAD, x -> x.write(0, 0, 8, 5));
        full.refused("no member, 300 leaves", RIGHT, x -> x.write(3, 0, 0, 5));
    }

    private static void noPartBeforeNoMember() {
        Scene s = Scene.gardenWithFile(check).with(x -> x.goAway(1));
        s.refused("no part, no member", BAD, x -> x.write(3, 0, 8, 5));
        s.refused("no part, away", BAD, x -> x.write(1, 0, -1, 5));
        s.with(x -> x.spoil(0, 0, 1));
        s.refused("no part, spoiled", BAD, x -> x.write(0, 0, 8, 5));
        s.with(x -> x.throwAway(0, 0));
        s.refused("no part, thrown away", BAD, x -> x.write(0, 0, 8, 5));
        s.refused("no part, no member, thrown away", BAD, x -> x.write(3, 0, 8, 5));
    }

    private static void noMemberBeforeState() {
        Scene s = Scene.gardenWithFile(check).with(x -> x.addFile(1, 2)).with(x -> x.write(2, 1, 0, 1));
        s.with(x -> x.write(2, 1, 1, 1)).with(x -> x.goAway(3)).with(x -> x.spoil(0, 0, 1));
        s.refused("no member, away", RIGHT, x -> x.write(3, 1, 0, 5));
        s.refused("no member, spoiled", RIGHT, x -> x.write(2, 0, 0, 5));
        s.refused("no member, as many parts as the quota", RIGHT, x -> x.write(0, 1, 2, 5));
        s.with(x -> x.throwAway(0, 0));
        s.refused("no member, thrown away", RIGHT, x -> x.write(2, 0, 0, 5));
        s.refused("no member, away, thrown away", RIGHT, x -> x.write(3, 0, 0, 5));
    }

    /** "The key of a file is turned ahead of a write, if the epoch of its version is not the present one" */
    private static void turnedAheadOfAWrite() {
        Scene s = Scene.gardenWithFile(check);
        s.due("write(0, 0, 1, 5), the same epoch", 0, x -> x.write(0, 0, 1, 5));
        for (int user = 2; user < 4; user++) {
            int own = user;
            s.with(x -> x.join(0, own)).with(x -> x.leave(0, own, false));
        }
        s.due("epoch(0)", 2, x -> x.epoch(0));
        s.due("write(0, 0, 1, 5), two epochs later", 1, x -> x.write(0, 0, 1, 5));
        s.due("write(0, 0, 2, 5), the same epoch", 1, x -> x.write(0, 0, 2, 5));
        s.due("version(0, 0), not written since", 0, x -> x.version(0, 0));
        s.due("cipher(0, 1)", Model.seal(5, Model.keyOfPart(0, 1, 1)), x -> x.cipher(0, 1));
        s.with(x -> x.leave(0, 1, false));
        s.due("write(0, 0, 0, 6), one epoch later", 2, x -> x.write(0, 0, 0, 6));
        s.due("version(0, 1), not written since", 1, x -> x.version(0, 1));
    }

    // ---- writes, parts ----

    /** "Returns the number, 0 if it is not there." */
    private static void writesOfPart() {
        Scene s = Scene.gardenWithFile(check);
        s.due("writes(0, 7), not there", 0, x -> x.writes(0, 7));
        s.due("writes(0, 0), once", 1, x -> x.writes(0, 0));
        s.with(x -> x.write(1, 0, 0, 70));
        s.due("writes(0, 0), twice, the same value", 2, x -> x.writes(0, 0));
        for (int file : NO_FILES) {
            s.refused("writes(" + file + ", 0)", NONE, x -> x.writes(file, 0));
            s.refused("writes(" + file + ", 8)", NONE, x -> x.writes(file, 8));
        }
        for (int part : NO_PARTS) {
            s.refused("writes(0, " + part + ")", BAD, x -> x.writes(0, part));
        }
        s.with(x -> x.throwAway(0, 0));
        s.due("writes(0, 0), thrown away", 2, x -> x.writes(0, 0));
        s.with(x -> x.purge());
        s.due("writes(0, 0), purged", 0, x -> x.writes(0, 0));
        s.refused("writes(0, 8), purged", BAD, x -> x.writes(0, 8));
    }

    /** "Throws NoSuchElementException if there is no such group", and what counts as a part */
    private static void partsOfGroup() {
        Scene s = Scene.garden(check);
        for (int group : NO_GROUPS) {
            s.refused("parts(" + group + ")", NONE, x -> x.parts(group));
        }
        s.due("parts(1), no files", 0, x -> x.parts(1));
        s.with(x -> x.addFile(1, 2)).with(x -> x.addFile(0, 0)).with(x -> x.addFile(1, 2));
        s.due("parts(1), empty files", 0, x -> x.parts(1));
        s.with(x -> x.write(2, 0, 0, 1)).with(x -> x.write(2, 2, 7, 1)).with(x -> x.write(0, 1, 0, 1));
        s.due("parts(1)", 2, x -> x.parts(1));
        s.due("parts(0)", 1, x -> x.parts(0));
        s.with(x -> x.write(2, 0, 0, 2));
        s.due("parts(1), one written again", 2, x -> x.parts(1));
        s.with(x -> x.spoil(0, 0, 1));
        s.due("parts(1), one spoiled", 2, x -> x.parts(1));
        s.with(x -> x.throwAway(2, 2));
        s.due("parts(1), one thrown away", 2, x -> x.parts(1));
        s.with(x -> x.purge());
        s.due("parts(1), purged", 1, x -> x.parts(1));
        s.due("parts(0), purged", 1, x -> x.parts(0));
    }
}
