import java.util.NoSuchElementException;

/** A test for each sentence of promises 44 to 48 and of "Away" that names a boundary. */
public final class BoundsOfDraftsTest {
    private static final Class<NoSuchElementException> NONE = NoSuchElementException.class;
    private static final Class<IllegalArgumentException> BAD = IllegalArgumentException.class;
    private static final Class<IllegalStateException> STATE = IllegalStateException.class;
    private static final Class<IndexOutOfBoundsException> PLACE = IndexOutOfBoundsException.class;
    private static final int LOWEST = Integer.MIN_VALUE;
    private static final int HIGHEST = Integer.MAX_VALUE;
    private static final int[] NO_USERS = {-1, 4, 5, 6, LOWEST, HIGHEST};
    private static final int[] NO_FILES = {-1, 1, 19, 20, LOWEST, HIGHEST};
    private static final int[] NO_PARTS = {-1, 8, 9, LOWEST, HIGHEST};
    private static final Check check = new Check("BoundsOfDraftsTest");

    public static void main(String[] args) {
        noUserGoesAway();
        goAwayAgain();
        allGoAway();
        draftOfNone();
        draftOfNoPart();
        draftByWhoIsHere();
        tenDrafts();
        tenDraftsAndOneInPlace();
        reasonsOfDraft();
        draftsThatAreNotRefused();
        laterOneBehindAllOthers();
        laterOneKeepsItsOwn();
        noUserComesBack();
        whoIsHereComesBack();
        noDrafts();
        numberOfWrites();
        writesOfPurgedPart();
        conflictByNoMember();
        conflictInSpoiledFile();
        conflictInFileThrownAway();
        conflictByQuota();
        conflictByFullLog();
        keyTurnedByADraft();
        conflictsOfWhoCameBackLast();
        noSuchConflict();
        lastFileAndPart();
        check.end();
    }

    // ---- goAway ----

    /** "Throws NoSuchElementException if there is no such user" */
    private static void noUserGoesAway() {
        Scene s = Scene.gardenWithFile(check);
        for (int user : NO_USERS) {
            s.refused("goAway(" + user + ")", NONE, x -> x.goAway(user));
        }
        s.due("goAway(3), the last user", 1, x -> x.goAway(3));
        s.due("goAway(0), the first user", 2, x -> x.goAway(0));
    }

    /** "Throws IllegalStateException if the user is away" */
    private static void goAwayAgain() {
        Scene s = Scene.gardenWithFile(check).with(x -> x.goAway(1)).with(x -> x.draft(1, 0, 0, 5));
        s.refused("goAway(1) again", STATE, x -> x.goAway(1));
        s.due("comeBack(1), the draft is kept", 1, x -> x.comeBack(1));
        s.due("goAway(1), back", 1, x -> x.goAway(1));
        s.refused("goAway(1) once more", STATE, x -> x.goAway(1));
    }

    /** "Returns how many users are away then." */
    private static void allGoAway() {
        Scene s = new Scene(check);
        for (int i = 0; i < 6; i++) {
            s.with(x -> x.addUser(1));
        }
        for (int i = 0; i < 6; i++) {
            int user = 5 - i;
            s.due("goAway(" + user + ")", i + 1, x -> x.goAway(user));
        }
        s.with(x -> x.comeBack(0)).with(x -> x.comeBack(5));
        s.due("goAway(5), two were back", 5, x -> x.goAway(5));
    }

    // ---- draft ----

    /** "Throws NoSuchElementException if there is no such user or file" */
    private static void draftOfNone() {
        Scene s = Scene.gardenWithFile(check).with(x -> x.goAway(1));
        for (int user : NO_USERS) {
            s.refused("draft(" + user + ", 0, 0, 5)", NONE, x -> x.draft(user, 0, 0, 5));
        }
        for (int file : NO_FILES) {
            s.refused("draft(1, " + file + ", 0, 5)", NONE, x -> x.draft(1, file, 0, 5));
        }
        s.due("draft(1, 0, 0, 5)", 1, x -> x.draft(1, 0, 0, 5));
    }

    /** "Throws IllegalArgumentException if there is no such part" */
    private static void draftOfNoPart() {
        Scene s = Scene.gardenWithFile(check).with(x -> x.addFile(0, 0)).with(x -> x.goAway(1));
        for (int part : NO_PARTS) {
            s.refused("draft(1, 0, " + part + ", 5)", BAD, x -> x.draft(1, 0, part, 5));
            s.refused("draft(1, 1, " + part + ", 5)", BAD, x -> x.draft(1, 1, part, 5));
        }
        s.due("draft(1, 0, 0, 5)", 1, x -> x.draft(1, 0, 0, 5));
        s.due("draft(1, 0, 7, 5), not there", 2, x -> x.draft(1, 0, 7, 5));
    }

    /** "Throws IllegalStateException if the user is not away" */
    private static void draftByWhoIsHere() {
        Scene s = Scene.gardenWithFile(check).with(x -> x.goAway(0));
        s.refused("draft(1, 0, 0, 5), here", STATE, x -> x.draft(1, 0, 0, 5));
        s.with(x -> x.goAway(1));
        s.due("draft(1, 0, 0, 5), away", 1, x -> x.draft(1, 0, 0, 5));
        s.with(x -> x.comeBack(1));
        s.refused("draft(1, 0, 0, 6), back", STATE, x -> x.draft(1, 0, 0, 6));
    }

    /** "A user who is away can make drafts, at most 10"; "or has 10 drafts for other parts" */
    private static void tenDrafts() {
        Scene s = Scene.gardenWithFile(check).with(x -> x.addFile(0, 0)).with(x -> x.goAway(1)).with(x -> x.goAway(0));
        for (int i = 0; i < 10; i++) {
            int place = i;
            s.due("draft " + (place + 1), place + 1, x -> x.draft(1, place / 8, place % 8, place));
        }
        s.refused("draft 11", STATE, x -> x.draft(1, 1, 2, 5));
        s.refused("draft 11, the last part", STATE, x -> x.draft(1, 1, 7, 5));
        s.due("draft of another user", 1, x -> x.draft(0, 1, 2, 5));
        s.due("comeBack(1), all become writes", 10, x -> x.comeBack(1));
        s.due("conflicts()", 0, x -> x.conflicts());
        s.due("read(0, 1, 1), the tenth", 9, x -> x.read(0, 1, 1));
        s.with(x -> x.goAway(1));
        s.due("draft, away once more", 1, x -> x.draft(1, 1, 2, 5));
    }

    /** "one for each part, a later one in place of an earlier one", also when there are 10 */
    private static void tenDraftsAndOneInPlace() {
        Scene s = Scene.gardenWithFile(check).with(x -> x.addFile(0, 0)).with(x -> x.goAway(1));
        for (int i = 0; i < 10; i++) {
            int place = i;
            s.with(x -> x.draft(1, place / 8, place % 8, place));
        }
        s.due("draft in place of the first", 10, x -> x.draft(1, 0, 0, 100));
        s.due("draft in place of the last but one", 10, x -> x.draft(1, 1, 1, 101));
        s.due("draft in place of itself", 10, x -> x.draft(1, 1, 1, 102));
        s.refused("draft 11", STATE, x -> x.draft(1, 1, 2, 5));
        s.due("comeBack(1)", 10, x -> x.comeBack(1));
        s.due("read(0, 0, 0)", 100, x -> x.read(0, 0, 0));
        s.due("read(0, 1, 1)", 102, x -> x.read(0, 1, 1));
        s.due("the last leaf is that of the last draft", Model.mix(9, Model.seal(102, Model.keyOfPart(1, 0, 1))),
                x -> x.leaf(x.leaves() - 1));
    }

    private static void reasonsOfDraft() {
        Scene s = Scene.gardenWithFile(check).with(x -> x.addFile(0, 0));
        s.refused("no user, no part", NONE, x -> x.draft(4, 0, 8, 5));
        s.refused("no file, no part, here", NONE, x -> x.draft(1, 2, -1, 5));
        s.refused("no user, here", NONE, x -> x.draft(4, 0, 0, 5));
        s.refused("no file, here", NONE, x -> x.draft(1, 2, 0, 5));
        s.refused("no part, here", BAD, x -> x.draft(1, 0, 8, 5));
        s.with(x -> x.goAway(1));
        for (int i = 0; i < 10; i++) {
            int place = i;
            s.with(x -> x.draft(1, place / 8, place % 8, place));
        }
        s.refused("no file, 10 drafts", NONE, x -> x.draft(1, 2, 0, 5));
        s.refused("no part, 10 drafts", BAD, x -> x.draft(1, 1, 8, 5));
        s.refused("no part below, 10 drafts", BAD, x -> x.draft(1, 1, -1, 5));
    }

    /** A draft asks for no membership, no quota, no room in the log, and for no sound file. */
    private static void draftsThatAreNotRefused() {
        Scene s = Scene.gardenWithFile(check).with(x -> x.addFile(1, 2)).with(x -> x.write(2, 1, 0, 1));
        s.with(x -> x.write(2, 1, 1, 1)).with(x -> x.addFile(0, 0)).with(x -> x.goAway(3)).with(x -> x.spoil(0, 0, 1));
        s.with(x -> x.throwAway(0, 2));
        s.due("draft(3, 0, 0, 5), spoiled, by no member", 1, x -> x.draft(3, 0, 0, 5));
        s.due("draft(3, 2, 0, 5), thrown away", 2, x -> x.draft(3, 2, 0, 5));
        s.due("draft(3, 1, 2, 5), as many parts as the quota", 3, x -> x.draft(3, 1, 2, 5));
        s.due("leaves(), drafts tell the log nothing", 5, x -> x.leaves());
        s.due("writes(1, 2)", 0, x -> x.writes(1, 2));
        s.due("comeBack(3)", 0, x -> x.comeBack(3));
        s.due("conflicts()", 3, x -> x.conflicts());
        Scene full = Scene.gardenWithFile(check).withLeaves(300).with(x -> x.goAway(1));
        full.due("draft(1, 0, 0, 5), 300 leaves", 1, x -> x.draft(1, 0, 0, 5));
        full.due("comeBack(1), 300 leaves", 0, x -> x.comeBack(1));
        full.due("conflictAt(0)", 0, x -> x.conflictAt(0));
    }

    /** "and behind all others" */
    private static void laterOneBehindAllOthers() {
        Scene s = Scene.gardenWithFile(check).with(x -> x.goAway(3));
        for (int part : new int[] {4, 2, 7, 4, 0, 7, 7}) {
            s.with(x -> x.draft(3, 0, part, 5));
        }
        s.due("comeBack(3), no member", 0, x -> x.comeBack(3));
        s.due("conflicts()", 4, x -> x.conflicts());
        int[] order = {2, 4, 0, 7};
        for (int i = 0; i < order.length; i++) {
            int index = i;
            s.due("conflictAt(" + index + ")", order[index], x -> x.conflictAt(index));
        }
    }

    /** The later one keeps the value and the number of writes of its own time. */
    private static void laterOneKeepsItsOwn() {
        Scene s = Scene.gardenWithFile(check).with(x -> x.goAway(1)).with(x -> x.draft(1, 0, 0, 5));
        s.with(x -> x.draft(1, 0, 1, 6)).with(x -> x.write(0, 0, 0, 71)).with(x -> x.write(0, 0, 1, 72));
        s.with(x -> x.draft(1, 0, 0, 7));
        s.due("comeBack(1), one made again, one not", 1, x -> x.comeBack(1));
        s.due("read(0, 0, 0), the later value", 7, x -> x.read(0, 0, 0));
        s.due("read(0, 0, 1), the written value", 72, x -> x.read(0, 0, 1));
        s.due("conflictAt(0)", 1, x -> x.conflictAt(0));
    }

    // ---- comeBack ----

    /** "Throws NoSuchElementException if there is no such user" */
    private static void noUserComesBack() {
        Scene s = Scene.gardenWithFile(check).with(x -> x.goAway(3)).with(x -> x.goAway(0));
        for (int user : NO_USERS) {
            s.refused("comeBack(" + user + ")", NONE, x -> x.comeBack(user));
        }
        s.due("comeBack(3), the last user", 0, x -> x.comeBack(3));
        s.due("comeBack(0), the first user", 0, x -> x.comeBack(0));
    }

    /** "Throws IllegalStateException if the user is not away" */
    private static void whoIsHereComesBack() {
        Scene s = Scene.gardenWithFile(check).with(x -> x.goAway(3)).with(x -> x.draft(3, 0, 0, 5));
        s.refused("comeBack(1), never away", STATE, x -> x.comeBack(1));
        s.with(x -> x.comeBack(3));
        s.refused("comeBack(3), back", STATE, x -> x.comeBack(3));
        s.due("conflicts(), a refused one changes them not", 1, x -> x.conflicts());
    }

    private static void noDrafts() {
        Scene s = Scene.gardenWithFile(check).with(x -> x.goAway(1));
        s.due("comeBack(1), no drafts", 0, x -> x.comeBack(1));
        s.due("conflicts()", 0, x -> x.conflicts());
        s.due("leaves()", 2, x -> x.leaves());
    }

    /** "the number of writes that the part had when it was made, 0 for one that is not there" */
    private static void numberOfWrites() {
        Scene s = Scene.gardenWithFile(check).with(x -> x.write(0, 0, 1, 71)).with(x -> x.goAway(1));
        s.with(x -> x.draft(1, 0, 0, 5)).with(x -> x.draft(1, 0, 1, 6)).with(x -> x.draft(1, 0, 2, 7));
        s.with(x -> x.draft(1, 0, 3, 8)).with(x -> x.write(0, 0, 1, 71)).with(x -> x.write(0, 0, 3, 73));
        s.due("comeBack(1)", 2, x -> x.comeBack(1));
        s.due("read(0, 0, 0), nobody wrote", 5, x -> x.read(0, 0, 0));
        s.due("writes(0, 0)", 2, x -> x.writes(0, 0));
        s.due("read(0, 0, 2), still not there", 7, x -> x.read(0, 0, 2));
        s.due("writes(0, 2)", 1, x -> x.writes(0, 2));
        s.due("conflicts()", 2, x -> x.conflicts());
        s.due("conflictAt(0), the same value was written", 1, x -> x.conflictAt(0));
        s.due("conflictAt(1), there since", 3, x -> x.conflictAt(1));
    }

    /** A part that was purged is not there; but its file is thrown away, so that nothing is written. */
    private static void writesOfPurgedPart() {
        Scene s = Scene.gardenWithFile(check).with(x -> x.goAway(1)).with(x -> x.draft(1, 0, 0, 5));
        s.with(x -> x.throwAway(0, 0)).with(x -> x.purge()).with(x -> x.draft(1, 0, 0, 6));
        s.due("comeBack(1), purged", 0, x -> x.comeBack(1));
        s.due("conflicts()", 1, x -> x.conflicts());
        s.due("writes(0, 0)", 0, x -> x.writes(0, 0));
    }

    /** "one becomes a write if this user could write this part then": a member, */
    private static void conflictByNoMember() {
        Scene s = Scene.gardenWithFile(check).with(x -> x.goAway(1)).with(x -> x.draft(1, 0, 0, 5));
        s.with(x -> x.leave(0, 1, false));
        s.due("comeBack(1), who left", 0, x -> x.comeBack(1));
        s.due("conflictAt(0)", 0, x -> x.conflictAt(0));
        s.with(x -> x.goAway(1)).with(x -> x.draft(1, 0, 0, 6)).with(x -> x.join(0, 1));
        s.due("comeBack(1), joined while away", 1, x -> x.comeBack(1));
        s.due("conflicts()", 0, x -> x.conflicts());
    }

    /** in a file that is not spoiled, */
    private static void conflictInSpoiledFile() {
        Scene s = Scene.gardenWithFile(check).with(x -> x.addFile(0, 0)).with(x -> x.goAway(1));
        s.with(x -> x.draft(1, 0, 1, 5)).with(x -> x.draft(1, 1, 0, 6)).with(x -> x.spoil(0, 0, 1));
        s.due("comeBack(1), spoiled", 1, x -> x.comeBack(1));
        s.due("conflictAt(0)", 1, x -> x.conflictAt(0));
        s.with(x -> x.goAway(1)).with(x -> x.draft(1, 0, 1, 5)).with(x -> x.spoil(0, 0, 1));
        s.due("comeBack(1), spoiled only while away", 1, x -> x.comeBack(1));
    }

    /** not thrown away, */
    private static void conflictInFileThrownAway() {
        Scene s = Scene.gardenWithFile(check).with(x -> x.addFile(0, 0)).with(x -> x.goAway(1));
        s.with(x -> x.draft(1, 0, 0, 5)).with(x -> x.draft(1, 1, 0, 6)).with(x -> x.throwAway(0, 0));
        s.due("comeBack(1), thrown away", 1, x -> x.comeBack(1));
        s.due("conflictAt(0)", 0, x -> x.conflictAt(0));
        s.due("read(0, 1, 0), the other file", 6, x -> x.read(0, 1, 0));
    }

    /** with room in the quota, which the drafts ahead of it fill, */
    private static void conflictByQuota() {
        Scene s = Scene.garden(check).with(x -> x.addFile(1, 2)).with(x -> x.write(2, 0, 3, 1)).with(x -> x.goAway(2));
        s.with(x -> x.draft(2, 0, 5, 5)).with(x -> x.draft(2, 0, 6, 6)).with(x -> x.draft(2, 0, 3, 7));
        s.due("comeBack(2), one new part of two", 2, x -> x.comeBack(2));
        s.due("conflicts()", 1, x -> x.conflicts());
        s.due("conflictAt(0)", 6, x -> x.conflictAt(0));
        s.due("read(2, 0, 5)", 5, x -> x.read(2, 0, 5));
        s.due("read(2, 0, 3), there", 7, x -> x.read(2, 0, 3));
        s.due("parts(1)", 2, x -> x.parts(1));
    }

    /** and in the log. */
    private static void conflictByFullLog() {
        Scene s = Scene.gardenWithFile(check).withLeaves(298).with(x -> x.goAway(1));
        for (int i = 0; i < 4; i++) {
            int part = i;
            s.with(x -> x.draft(1, 0, part, 1000 + part));
        }
        s.due("comeBack(1), room for two leaves", 2, x -> x.comeBack(1));
        s.due("leaves()", 300, x -> x.leaves());
        s.due("conflicts()", 2, x -> x.conflicts());
        s.due("conflictAt(0)", 2, x -> x.conflictAt(0));
        s.due("conflictAt(1)", 3, x -> x.conflictAt(1));
        s.due("read(0, 0, 1), the second", 1001, x -> x.read(0, 0, 1));
    }

    /** "for each write, also of one who comes back": also the key is turned ahead of it. */
    private static void keyTurnedByADraft() {
        Scene s = Scene.gardenWithFile(check).with(x -> x.goAway(0)).with(x -> x.draft(0, 0, 0, 5));
        s.with(x -> x.draft(0, 0, 1, 6)).with(x -> x.leave(0, 1, false));
        s.due("comeBack(0)", 2, x -> x.comeBack(0));
        s.due("version(0, 0)", 1, x -> x.version(0, 0));
        s.due("version(0, 1), turned once", 1, x -> x.version(0, 1));
        s.due("leaf(3)", Model.mix(0, Model.seal(5, Model.keyOfPart(0, 1, 0))), x -> x.leaf(3));
        s.due("leaf(4)", Model.mix(1, Model.seal(6, Model.keyOfPart(0, 1, 1))), x -> x.leaf(4));
        s.due("canRead(1, 0, 0)", false, x -> x.canRead(1, 0, 0));
    }

    // ---- conflicts, conflictAt ----

    /** "Returns how many drafts of who came back last are conflicts." */
    private static void conflictsOfWhoCameBackLast() {
        Scene s = Scene.gardenWithFile(check).with(x -> x.goAway(1)).with(x -> x.goAway(3)).with(x -> x.goAway(0));
        s.with(x -> x.draft(3, 0, 5, 1)).with(x -> x.draft(3, 0, 6, 2)).with(x -> x.draft(1, 0, 1, 3));
        s.due("conflicts(), nobody came back", 0, x -> x.conflicts());
        s.due("comeBack(3)", 0, x -> x.comeBack(3));
        s.due("conflicts(), two", 2, x -> x.conflicts());
        s.with(x -> x.goAway(3)).with(x -> x.draft(3, 0, 7, 1));
        s.due("conflicts(), until somebody comes back", 2, x -> x.conflicts());
        s.due("comeBack(1)", 1, x -> x.comeBack(1));
        s.due("conflicts(), none", 0, x -> x.conflicts());
        s.refused("conflictAt(0), none", PLACE, x -> x.conflictAt(0));
        s.due("comeBack(3)", 0, x -> x.comeBack(3));
        s.due("conflicts(), one", 1, x -> x.conflicts());
        s.due("conflictAt(0)", 7, x -> x.conflictAt(0));
    }

    /** "Throws IndexOutOfBoundsException if there is no such conflict" */
    private static void noSuchConflict() {
        Scene s = Scene.gardenWithFile(check).with(x -> x.addFile(0, 0)).with(x -> x.goAway(3));
        for (int index : new int[] {0, -1, 9}) {
            s.refused("conflictAt(" + index + "), nobody came back", PLACE, x -> x.conflictAt(index));
        }
        for (int i = 0; i < 10; i++) {
            int place = 9 - i;
            s.with(x -> x.draft(3, place / 8, place % 8, 5));
        }
        s.refused("conflictAt(0), drafts are none yet", PLACE, x -> x.conflictAt(0));
        s.due("comeBack(3)", 0, x -> x.comeBack(3));
        s.due("conflicts()", 10, x -> x.conflicts());
        for (int index : new int[] {-1, 10, 11, LOWEST, HIGHEST}) {
            s.refused("conflictAt(" + index + ")", PLACE, x -> x.conflictAt(index));
        }
        s.due("conflictAt(0)", 9, x -> x.conflictAt(0));
        s.due("conflictAt(9)", 0, x -> x.conflictAt(9));
        s.with(x -> x.goAway(3)).with(x -> x.draft(3, 0, 4, 5)).with(x -> x.comeBack(3));
        s.due("conflictAt(0), one", 4, x -> x.conflictAt(0));
        s.refused("conflictAt(1), one", PLACE, x -> x.conflictAt(1));
    }

    /** "Returns 8 times the file plus the part." */
    private static void lastFileAndPart() {
        Scene s = Scene.gardenWithFile(check);
        for (int i = 1; i < 20; i++) {
            s.with(x -> x.addFile(0, 0));
        }
        s.with(x -> x.goAway(3)).with(x -> x.goAway(1));
        for (int file : new int[] {0, 1, 19}) {
            s.with(x -> x.draft(3, file, 0, 5)).with(x -> x.draft(3, file, 7, 5)).with(x -> x.draft(1, file, 7, -file));
        }
        s.due("comeBack(3)", 0, x -> x.comeBack(3));
        int[] places = {0, 7, 8, 15, 152, 159};
        for (int i = 0; i < places.length; i++) {
            int index = i;
            s.due("conflictAt(" + index + ")", places[index], x -> x.conflictAt(index));
        }
        s.due("comeBack(1)", 3, x -> x.comeBack(1));
        s.due("read(0, 19, 7)", -19, x -> x.read(0, 19, 7));
        s.due("read(0, 1, 7)", -1, x -> x.read(0, 1, 7));
    }
}
