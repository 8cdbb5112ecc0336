import java.util.NoSuchElementException;

/** A test for each sentence of promises 1 to 4 and 6 to 8 and of "Users and groups" that names a boundary. */
public final class BoundsOfUsersTest {
    private static final Class<NoSuchElementException> NONE = NoSuchElementException.class;
    private static final Class<IllegalArgumentException> BAD = IllegalArgumentException.class;
    private static final Class<IllegalStateException> STATE = IllegalStateException.class;
    private static final Class<IndexOutOfBoundsException> PLACE = IndexOutOfBoundsException.class;
    private static final int LOWEST = Integer.MIN_VALUE;
    private static final int HIGHEST = Integer.MAX_VALUE;
    /** Beside the users 0 to 3 and the groups 0 and 1 of a scene. */
    private static final int[] NO_USERS = {-1, 4, 5, 6, LOWEST, HIGHEST};
    private static final int[] NO_GROUPS = {-1, 2, 4, 5, LOWEST, HIGHEST};
    private static final Check check = new Check("BoundsOfUsersTest");

    public static void main(String[] args) {
        newObjectHasNoUsers();
        newObjectHasNoGroupsAndFiles();
        newObjectHasAnEmptyLog();
        newObjectHasNothingElse();
        secretOutOfRange();
        sixUsers();
        reasonsOfAddUser();
        noSuchOwner();
        quotaOutOfRange();
        fiveGroups();
        reasonsOfAddGroup();
        ownerIsAMemberAtFirst();
        noSuchGroupOrUserToJoin();
        memberJoins();
        joinWith300Leaves();
        reasonsOfJoin();
        allUsersJoin();
        whoLeftJoinsAgain();
        isMemberOfNone();
        epochOfNone();
        knownOfNone();
        knownUpToLeaving();
        knownToUser0();
        call512();
        check.end();
    }

    /** "Creates a garden without users" */
    private static void newObjectHasNoUsers() {
        Scene s = new Scene(check);
        for (int user : new int[] {0, -1, 5}) {
            s.refused("new: addGroup", NONE, x -> x.addGroup(user, 1));
            s.refused("new: show", NONE, x -> x.show(user, 0));
            s.refused("new: meet", NONE, x -> x.meet(user, 1));
            s.refused("new: head", NONE, x -> x.head(user));
            s.refused("new: alarms", NONE, x -> x.alarms(user));
            s.refused("new: split", NONE, x -> x.split(user, 1, 1));
            s.refused("new: share", NONE, x -> x.share(user, 1));
            s.refused("new: goAway", NONE, x -> x.goAway(user));
            s.refused("new: comeBack", NONE, x -> x.comeBack(user));
        }
        s.due("new: addUser, the first number", 0, x -> x.addUser(1));
        s.due("new: addGroup, the first number", 0, x -> x.addGroup(0, 1));
        s.due("new: addFile, the first number", 0, x -> x.addFile(0, 0));
    }

    private static void newObjectHasNoGroupsAndFiles() {
        Scene s = new Scene(check).with(x -> x.addUser(1));
        s.refused("no groups: join", NONE, x -> x.join(0, 0));
        s.refused("no groups: leave", NONE, x -> x.leave(0, 0, true));
        s.refused("no groups: isMember", NONE, x -> x.isMember(0, 0));
        s.refused("no groups: epoch", NONE, x -> x.epoch(0));
        s.refused("no groups: known", NONE, x -> x.known(0, 0));
        s.refused("no groups: addFile", NONE, x -> x.addFile(0, 0));
        s.refused("no groups: parts", NONE, x -> x.parts(0));
        s.refused("no groups: load", NONE, x -> x.load(0));
        s.refused("no groups: loadBits", NONE, x -> x.loadBits(0));
        s.refused("no groups: ask", NONE, x -> x.ask(0, 0, 0));
        s.with(x -> x.addGroup(0, 1));
        s.refused("no files: write", NONE, x -> x.write(0, 0, 0, 1));
        s.refused("no files: read", NONE, x -> x.read(0, 0, 0));
        s.refused("no files: canRead", NONE, x -> x.canRead(0, 0, 0));
        s.refused("no files: canReadByGrants", NONE, x -> x.canReadByGrants(0, 0, 0));
        s.refused("no files: cipher", NONE, x -> x.cipher(0, 0));
        s.refused("no files: version", NONE, x -> x.version(0, 0));
        s.refused("no files: writes", NONE, x -> x.writes(0, 0));
        s.refused("no files: mark", NONE, x -> x.mark(0));
        s.refused("no files: spoil", NONE, x -> x.spoil(0, 0, 1));
        s.refused("no files: status", NONE, x -> x.status(0));
        s.refused("no files: throwAway", NONE, x -> x.throwAway(0, 0));
        s.refused("no files: tell", NONE, x -> x.tell(0, 0, 0));
        s.with(x -> x.goAway(0));
        s.refused("no files: draft", NONE, x -> x.draft(0, 0, 0, 1));
    }

    /** "with an empty log" */
    private static void newObjectHasAnEmptyLog() {
        Scene s = new Scene(check);
        s.due("new: leaves()", 0, x -> x.leaves());
        s.refused("new: leaf(0)", PLACE, x -> x.leaf(0));
        s.due("new: root(0)", 0, x -> x.root(0));
        s.refused("new: root(1)", BAD, x -> x.root(1));
        s.refused("new: proofLength(0, 0)", PLACE, x -> x.proofLength(0, 0));
        s.refused("new: proofLength(1, 0)", BAD, x -> x.proofLength(1, 0));
        s.refused("new: prefixLength(0, 0)", BAD, x -> x.prefixLength(0, 0));
        s.refused("new: prefixLength(1, 1)", BAD, x -> x.prefixLength(1, 1));
        s.due("new: forget(0)", 0, x -> x.forget(0));
        s.refused("new: forget(1)", BAD, x -> x.forget(1));
    }

    private static void newObjectHasNothingElse() {
        Scene s = new Scene(check);
        s.due("new: purge()", 0, x -> x.purge());
        s.due("new: drop()", 0, x -> x.drop());
        s.refused("new: recovered()", STATE, x -> x.recovered());
        s.due("new: conflicts()", 0, x -> x.conflicts());
        s.refused("new: conflictAt(0)", PLACE, x -> x.conflictAt(0));
        s.refused("new: foundAt(0)", PLACE, x -> x.foundAt(0));
        s.due("new: shown(n)", 0, x -> x.shown('n'));
        s.due("new: shown(r)", 0, x -> x.shown('r'));
        s.due("new: shown(f)", 0, x -> x.shown('f'));
        s.refused("new: meanTold()", ArithmeticException.class, x -> x.meanTold());
        s.refused("new: meanToldBits()", ArithmeticException.class, x -> x.meanToldBits());
        s.due("new: isSound()", true, x -> x.isSound());
    }

    // ---- addUser ----

    /** "a user has a secret from 0 to 9999"; "Throws IllegalArgumentException if the secret is out of range" */
    private static void secretOutOfRange() {
        Scene s = new Scene(check);
        for (int secret : new int[] {-1, 10000, LOWEST, HIGHEST}) {
            s.refused("addUser(" + secret + ")", BAD, x -> x.addUser(secret));
        }
        s.due("addUser(0)", 0, x -> x.addUser(0));
        s.due("addUser(9999)", 1, x -> x.addUser(9999));
        s.with(x -> x.split(0, 1, 1)).with(x -> x.split(1, 1, 1));
        s.due("the secret 0", 0, x -> x.share(0, 1));
        s.due("the secret 9999", 9999, x -> x.share(1, 1));
    }

    /** "At most 6 users have numbers from 0"; "Throws IllegalStateException if there are 6 users" */
    private static void sixUsers() {
        Scene s = new Scene(check);
        for (int user = 0; user < 6; user++) {
            int number = user;
            s.refused("head(" + number + "), not yet", NONE, x -> x.head(number));
            s.due("addUser, number " + number, number, x -> x.addUser(7));
            s.due("head(" + number + ")", 0, x -> x.head(number));
        }
        s.refused("addUser, the seventh", STATE, x -> x.addUser(7));
        s.refused("head(6)", NONE, x -> x.head(6));
        s.due("addGroup by the last", 0, x -> x.addGroup(5, 1));
    }

    private static void reasonsOfAddUser() {
        Scene s = new Scene(check);
        for (int i = 0; i < 6; i++) {
            s.with(x -> x.addUser(7));
        }
        for (int secret : new int[] {-1, 10000}) {
            s.refused("addUser, the seventh, with " + secret, BAD, x -> x.addUser(secret));
        }
        for (int secret : new int[] {0, 9999}) {
            s.refused("addUser, the seventh, with " + secret, STATE, x -> x.addUser(secret));
        }
    }

    // ---- addGroup ----

    /** "Throws NoSuchElementException if there is no such user" */
    private static void noSuchOwner() {
        Scene s = Scene.garden(check);
        for (int user : NO_USERS) {
            s.refused("addGroup(" + user + ", 5)", NONE, x -> x.addGroup(user, 5));
        }
        s.due("addGroup(3, 5), the last user", 2, x -> x.addGroup(3, 5));
        s.due("addGroup(0, 5), the first user", 3, x -> x.addGroup(0, 5));
    }

    /** "quota: its quota, 1 to 40"; "Throws IllegalArgumentException if the quota is out of range" */
    private static void quotaOutOfRange() {
        Scene s = Scene.garden(check);
        for (int quota : new int[] {0, -1, 41, LOWEST, HIGHEST}) {
            s.refused("addGroup(0, " + quota + ")", BAD, x -> x.addGroup(0, quota));
        }
        s.due("addGroup(0, 1)", 2, x -> x.addGroup(0, 1));
        s.due("addGroup(0, 40)", 3, x -> x.addGroup(0, 40));
    }

    /** "At most 5 groups have numbers from 0"; "Throws IllegalStateException if there are 5 groups" */
    private static void fiveGroups() {
        Scene s = new Scene(check).with(x -> x.addUser(1));
        for (int group = 0; group < 5; group++) {
            int number = group;
            s.refused("epoch(" + number + "), not yet", NONE, x -> x.epoch(number));
            s.due("addGroup, number " + number, number, x -> x.addGroup(0, 2));
            s.due("epoch(" + number + ")", 0, x -> x.epoch(number));
        }
        s.refused("addGroup, the sixth", STATE, x -> x.addGroup(0, 2));
        s.refused("epoch(5)", NONE, x -> x.epoch(5));
    }

    private static void reasonsOfAddGroup() {
        Scene s = Scene.garden(check);
        s.refused("addGroup, no user and no quota", NONE, x -> x.addGroup(4, 0));
        s.refused("addGroup, no user and too much", NONE, x -> x.addGroup(-1, 41));
        s.with(x -> x.addGroup(0, 1)).with(x -> x.addGroup(0, 1)).with(x -> x.addGroup(0, 1));
        s.refused("addGroup, the sixth, no user", NONE, x -> x.addGroup(4, 1));
        s.refused("addGroup, the sixth, no quota", BAD, x -> x.addGroup(0, 0));
        s.refused("addGroup, the sixth, too much", BAD, x -> x.addGroup(0, 41));
        s.refused("addGroup, the sixth, no user and no quota", NONE, x -> x.addGroup(4, 0));
        s.refused("addGroup, the sixth", STATE, x -> x.addGroup(0, 40));
    }

    /** "a group has an owner, members, among them the owner at first, a quota of parts, and an epoch, 0 at first" */
    private static void ownerIsAMemberAtFirst() {
        Scene s = new Scene(check).with(x -> x.addUser(1)).with(x -> x.addUser(2)).with(x -> x.addGroup(1, 1));
        s.due("isMember(0, 1), the owner", true, x -> x.isMember(0, 1));
        s.due("isMember(0, 0)", false, x -> x.isMember(0, 0));
        s.due("epoch(0), at first", 0, x -> x.epoch(0));
        s.due("known(0, 1), the owner", 0, x -> x.known(0, 1));
        s.due("leaves(), that is no joining", 0, x -> x.leaves());
        s.due("join(0, 0), the second member", 2, x -> x.join(0, 0));
    }

    // ---- join ----

    /** "Throws NoSuchElementException if there is no such group or user" */
    private static void noSuchGroupOrUserToJoin() {
        Scene s = Scene.garden(check);
        for (int group : NO_GROUPS) {
            s.refused("join(" + group + ", 3)", NONE, x -> x.join(group, 3));
        }
        for (int user : NO_USERS) {
            s.refused("join(0, " + user + ")", NONE, x -> x.join(0, user));
        }
        s.refused("join(2, 4)", NONE, x -> x.join(2, 4));
        s.due("join(1, 3), the last ones", 2, x -> x.join(1, 3));
        s.due("join(1, 0), the first user", 3, x -> x.join(1, 0));
        s.due("join(0, 3), the first group", 3, x -> x.join(0, 3));
    }

    /** "Throws IllegalStateException if the user is a member" */
    private static void memberJoins() {
        Scene s = Scene.garden(check);
        s.refused("join(0, 0), the owner", STATE, x -> x.join(0, 0));
        s.refused("join(0, 1), a member", STATE, x -> x.join(0, 1));
        s.due("join(1, 1), a member of another group", 2, x -> x.join(1, 1));
        s.with(x -> x.leave(0, 1, false));
        s.due("join(0, 1), who left", 2, x -> x.join(0, 1));
        s.refused("join(0, 1), a member again", STATE, x -> x.join(0, 1));
    }

    /** "or there are 300 leaves" */
    private static void joinWith300Leaves() {
        Scene s = Scene.gardenWithFile(check).withLeaves(299);
        s.due("join, 299 leaves", 3, x -> x.join(0, 2));
        s.due("leaves()", 300, x -> x.leaves());
        s.refused("join, 300 leaves", STATE, x -> x.join(0, 3));
        s.due("forget(299)", 1, x -> x.forget(299));
        s.due("join, 299 leaves again", 4, x -> x.join(0, 3));
        s.due("leaf(299)", Model.mix(100, 3), x -> x.leaf(299));
    }

    private static void reasonsOfJoin() {
        Scene s = Scene.gardenWithFile(check).withLeaves(300);
        s.refused("join, 300 leaves, no group", NONE, x -> x.join(2, 3));
        s.refused("join, 300 leaves, no user", NONE, x -> x.join(0, 4));
        s.refused("join, 300 leaves, a member", STATE, x -> x.join(0, 1));
        s.refused("join, a member of no group", NONE, x -> x.join(2, 1));
    }

    /** "Returns the number of members then." */
    private static void allUsersJoin() {
        Scene s = new Scene(check);
        for (int i = 0; i < 6; i++) {
            s.with(x -> x.addUser(1));
        }
        for (int i = 0; i < 5; i++) {
            s.with(x -> x.addGroup(2, 1));
        }
        int[] users = {5, 0, 4, 1, 3};
        for (int i = 0; i < users.length; i++) {
            int user = users[i];
            s.due("join(4, " + user + ")", i + 2, x -> x.join(4, user));
            s.due("its leaf", Model.mix(104, user), x -> x.leaf(x.leaves() - 1));
        }
        s.due("join(3, 5), another group", 2, x -> x.join(3, 5));
        s.due("leave(4, 5, true)", 0, x -> x.leave(4, 5, true));
        s.due("its leaf", Model.mix(204, 5), x -> x.leaf(x.leaves() - 1));
        s.due("join(4, 5) again", 6, x -> x.join(4, 5));
    }

    /** "When a user joins again, they are a member as others are." */
    private static void whoLeftJoinsAgain() {
        Scene s = Scene.gardenWithFile(check).with(x -> x.leave(0, 1, true)).with(x -> x.write(0, 0, 1, 71));
        s.due("canRead(1, 0, 1), outside", false, x -> x.canRead(1, 0, 1));
        s.with(x -> x.join(0, 1));
        s.due("isMember(0, 1)", true, x -> x.isMember(0, 1));
        s.due("known(0, 1)", 1, x -> x.known(0, 1));
        s.due("read(1, 0, 1), written while outside", 71, x -> x.read(1, 0, 1));
        s.due("canReadByGrants(1, 0, 0)", true, x -> x.canReadByGrants(1, 0, 0));
        s.due("write(1, 0, 0, 72)", 1, x -> x.write(1, 0, 0, 72));
        s.due("leave(0, 1, false)", 0, x -> x.leave(0, 1, false));
        s.due("known(0, 1), left again", 1, x -> x.known(0, 1));
        s.due("known(0, 0)", 2, x -> x.known(0, 0));
    }

    // ---- isMember, epoch, known ----

    /** "Throws NoSuchElementException if there is no such group or user" */
    private static void isMemberOfNone() {
        Scene s = Scene.garden(check);
        for (int group : NO_GROUPS) {
            s.refused("isMember(" + group + ", 0)", NONE, x -> x.isMember(group, 0));
        }
        for (int user : NO_USERS) {
            s.refused("isMember(0, " + user + ")", NONE, x -> x.isMember(0, user));
        }
        s.refused("isMember(2, 4)", NONE, x -> x.isMember(2, 4));
        s.due("isMember(0, 3)", false, x -> x.isMember(0, 3));
        s.due("isMember(1, 2)", true, x -> x.isMember(1, 2));
        s.due("isMember(1, 0)", false, x -> x.isMember(1, 0));
        s.due("isMember(0, 0)", true, x -> x.isMember(0, 0));
    }

    /** "Throws NoSuchElementException if there is no such group" */
    private static void epochOfNone() {
        Scene s = Scene.garden(check);
        for (int group : NO_GROUPS) {
            s.refused("epoch(" + group + ")", NONE, x -> x.epoch(group));
        }
        s.due("epoch(0)", 0, x -> x.epoch(0));
        s.due("epoch(1)", 0, x -> x.epoch(1));
        s.with(x -> x.leave(0, 1, false));
        s.due("epoch(0), one left", 1, x -> x.epoch(0));
        s.due("epoch(1), another group", 0, x -> x.epoch(1));
        s.refused("leave(0, 1) again", NONE, x -> x.leave(0, 1, false));
        s.due("epoch(0), after a refused leaving", 1, x -> x.epoch(0));
        s.with(x -> x.join(0, 1));
        s.due("epoch(0), one joined", 1, x -> x.epoch(0));
    }

    /** "Throws NoSuchElementException if there is no such group or user"; "Returns the epoch, -1 for none." */
    private static void knownOfNone() {
        Scene s = Scene.garden(check);
        for (int group : NO_GROUPS) {
            s.refused("known(" + group + ", 0)", NONE, x -> x.known(group, 0));
        }
        for (int user : NO_USERS) {
            s.refused("known(0, " + user + ")", NONE, x -> x.known(0, user));
        }
        s.refused("known(2, 4)", NONE, x -> x.known(2, 4));
        s.due("known(0, 3), never a member", -1, x -> x.known(0, 3));
        s.due("known(1, 0), never a member", -1, x -> x.known(1, 0));
        s.due("known(0, 1), in epoch 0", 0, x -> x.known(0, 1));
        s.with(x -> x.leave(0, 1, false));
        s.due("known(0, 3), in epoch 1", -1, x -> x.known(0, 3));
    }

    /** "A member knows ... up to the present one; somebody who was a member ... the present one when they left" */
    private static void knownUpToLeaving() {
        Scene s = Scene.garden(check).with(x -> x.join(0, 2)).with(x -> x.join(0, 3));
        s.with(x -> x.leave(0, 2, false));
        s.due("known(0, 2), left in epoch 0", 0, x -> x.known(0, 2));
        s.due("known(0, 1), a member in epoch 1", 1, x -> x.known(0, 1));
        s.with(x -> x.leave(0, 1, true));
        s.due("known(0, 1), left in epoch 1", 1, x -> x.known(0, 1));
        s.with(x -> x.leave(0, 3, true));
        s.due("known(0, 1), later", 1, x -> x.known(0, 1));
        s.due("known(0, 2), later", 0, x -> x.known(0, 2));
        s.due("known(0, 3)", 2, x -> x.known(0, 3));
        s.due("known(0, 0), the owner", 3, x -> x.known(0, 0));
        s.with(x -> x.join(1, 1));
        s.due("known(0, 1), joined another group", 1, x -> x.known(0, 1));
        s.due("known(1, 1)", 0, x -> x.known(1, 1));
        s.with(x -> x.join(0, 2));
        s.due("known(0, 2), a member again", 3, x -> x.known(0, 2));
    }

    /** The same of the user 0, in the groups of others. */
    private static void knownToUser0() {
        Scene s = Scene.garden(check);
        s.due("known(1, 0), never a member", -1, x -> x.known(1, 0));
        s.with(x -> x.join(1, 0)).with(x -> x.join(1, 3)).with(x -> x.leave(1, 3, false));
        s.due("known(1, 0), a member in epoch 1", 1, x -> x.known(1, 0));
        s.with(x -> x.leave(1, 0, false));
        s.due("isMember(1, 0), left", false, x -> x.isMember(1, 0));
        s.due("known(1, 0), left in epoch 1", 1, x -> x.known(1, 0));
        s.due("epoch(1)", 2, x -> x.epoch(1));
        s.refused("leave(1, 0) again", NONE, x -> x.leave(1, 0, false));
    }

    /** "An object is used for at most 512 calls after it has been made": the 512th is answered as any other. */
    private static void call512() {
        gardenOfComingAndGoing(512);
        Vaultgarden x = gardenOfComingAndGoing(510);
        check.due("known(0, 1), call 511", x.known(0, 1), 252);
        check.due("epoch(0), call 512", x.epoch(0), 253);
    }

    private static Vaultgarden gardenOfComingAndGoing(int calls) {
        Vaultgarden x = new Vaultgarden();
        x.addUser(1);
        x.addUser(2);
        x.addGroup(0, 1);
        for (int call = 4; call + 1 <= calls; call += 2) {
            if (call == 302) {
                check.due("forget(0)", x.forget(0), 298);
                call++;
            }
            check.due("join, call " + call, x.join(0, 1), 2);
            check.due("leave, call " + (call + 1), x.leave(0, 1, false), 0);
        }
        return x;
    }
}
