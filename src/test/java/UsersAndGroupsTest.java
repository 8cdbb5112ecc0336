import java.util.NoSuchElementException;

/** Promises 1 to 8. */
public final class UsersAndGroupsTest {
    private static final Class<NoSuchElementException> NONE = NoSuchElementException.class;
    private static final Class<IllegalArgumentException> BAD = IllegalArgumentException.class;
    private static final Class<IllegalStateException> STATE = IllegalStateException.class;
    private static final Check check = new Check("UsersAndGroupsTest");

    public static void main(String[] args) {
        newObject();
        addUser();
        addGroup();
        join();
        leave();
        leaveWithSameMark();
        isMember();
        epochAndKnown();
        userNoughtAsMember();
        fullLog();
        check.end();
    }

    private static Vaultgarden garden(int users) {
        Vaultgarden x = new Vaultgarden();
        for (int i = 0; i < users; i++) {
            x.addUser(1000 + i);
        }
        return x;
    }

    private static void newObject() {
        Vaultgarden x = new Vaultgarden();
        check.due("new: leaves()", x.leaves(), 0);
        check.due("new: root(0)", x.root(0), 0);
        check.due("new: purge()", x.purge(), 0);
        check.due("new: drop()", x.drop(), 0);
        check.due("new: conflicts()", x.conflicts(), 0);
        check.due("new: shown(n)", x.shown('n'), 0);
        check.due("new: shown(r)", x.shown('r'), 0);
        check.due("new: shown(f)", x.shown('f'), 0);
        check.due("new: isSound()", x.isSound(), true);
        check.refused("new: head(0)", NONE, () -> x.head(0));
        check.refused("new: epoch(0)", NONE, () -> x.epoch(0));
        check.refused("new: mark(0)", NONE, () -> x.mark(0));
        check.refused("new: recovered()", STATE, () -> x.recovered());
        check.refused("new: meanTold()", ArithmeticException.class, () -> x.meanTold());
        check.refused("new: foundAt(0)", IndexOutOfBoundsException.class, () -> x.foundAt(0));
    }

    private static void addUser() {
        Vaultgarden x = new Vaultgarden();
        check.refused("addUser(-1)", BAD, () -> x.addUser(-1));
        check.refused("addUser(10000)", BAD, () -> x.addUser(10000));
        check.due("addUser(0)", x.addUser(0), 0);
        check.due("addUser(9999)", x.addUser(9999), 1);
        for (int i = 2; i < 6; i++) {
            check.due("addUser, the same secret", x.addUser(7), i);
        }
        check.refused("addUser, the seventh", STATE, () -> x.addUser(7));
        check.refused("addUser, the seventh, out of range", BAD, () -> x.addUser(10000));
    }

    private static void addGroup() {
        Vaultgarden x = garden(2);
        check.refused("addGroup(2, 5)", NONE, () -> x.addGroup(2, 5));
        check.refused("addGroup(-1, 0)", NONE, () -> x.addGroup(-1, 0));
        check.refused("addGroup(0, 0)", BAD, () -> x.addGroup(0, 0));
        check.refused("addGroup(0, 41)", BAD, () -> x.addGroup(0, 41));
        check.due("addGroup(1, 1)", x.addGroup(1, 1), 0);
        check.due("the owner is a member", x.isMember(0, 1), true);
        check.due("others are none", x.isMember(0, 0), false);
        check.due("addGroup tells the log nothing", x.leaves(), 0);
        for (int i = 1; i < 5; i++) {
            check.due("addGroup(0, 40)", x.addGroup(0, 40), i);
        }
        check.refused("addGroup, the sixth", STATE, () -> x.addGroup(0, 40));
        check.refused("addGroup, the sixth, quota 0", BAD, () -> x.addGroup(0, 0));
        check.refused("addGroup, the sixth, no user", NONE, () -> x.addGroup(2, 0));
    }

    private static void join() {
        Vaultgarden x = garden(3);
        x.addGroup(0, 5);
        check.refused("join(1, 0)", NONE, () -> x.join(1, 0));
        check.refused("join(-1, 0)", NONE, () -> x.join(-1, 0));
        check.refused("join(0, 3)", NONE, () -> x.join(0, 3));
        check.refused("join(0, -1)", NONE, () -> x.join(0, -1));
        check.refused("join(0, 0), the owner", STATE, () -> x.join(0, 0));
        check.due("join(0, 2)", x.join(0, 2), 2);
        check.due("join(0, 1)", x.join(0, 1), 3);
        check.refused("join(0, 1) again", STATE, () -> x.join(0, 1));
        check.due("leaf(0)", x.leaf(0), Model.mix(100, 2));
        check.due("leaf(1)", x.leaf(1), Model.mix(100, 1));
        x.leave(0, 2, false);
        check.due("join(0, 2) again", x.join(0, 2), 3);
        check.due("they know all epochs", x.known(0, 2), 1);
    }

    private static void leave() {
        Vaultgarden x = garden(4);
        x.addGroup(0, 40);
        x.join(0, 1);
        x.join(0, 2);
        check.refused("leave(1, 0)", NONE, () -> x.leave(1, 0, false));
        check.refused("leave(0, 3), no member", NONE, () -> x.leave(0, 3, true));
        check.refused("leave(0, 9), no user", NONE, () -> x.leave(0, 9, true));
        check.refused("leave(0, 0), the owner", BAD, () -> x.leave(0, 0, true));
        check.due("a refused leave changes no epoch", x.epoch(0), 0);
        check.due("a refused leave tells the log nothing", x.leaves(), 2);
        for (int file = 0; file < 4; file++) {
            x.addFile(0, 0);
            x.write(0, file, 1, 10 + file);
            x.write(0, file, 6, 20 + file);
        }
        x.throwAway(0, 1);
        x.spoil(2, 1, 1);
        int before = x.leaves();
        int oldMark = x.mark(2);
        check.due("leave(0, 1, true): parts of two files", x.leave(0, 1, true), 4);
        check.due("it is no write for the log", x.leaves(), before + 1);
        check.due("its leaf", x.leaf(before), Model.mix(200, 1));
        check.due("it is no write of the part", x.writes(0, 1), 1);
        check.due("the version is turned", x.version(0, 6), 1);
        check.due("the cipher is new", x.cipher(3, 6), Model.seal(23, Model.keyOfPart(3, 1, 6)));
        check.due("the mark is new", x.mark(3), Model.mix(Model.mix(Model.mix(6, 3), x.cipher(3, 1) ^ 1),
                x.cipher(3, 6) ^ 6));
        check.due("not that of the thrown-away file", x.version(1, 1), 0);
        check.due("not that of the spoiled file", x.version(2, 1), 0);
        check.due("nor its mark", x.mark(2), oldMark);
        check.due("the value stays", x.read(0, 0, 6), 20);
        check.due("who left cannot read", x.canRead(1, 0, 6), false);
        check.due("who left can still read the spoiled file", x.canRead(1, 2, 6), true);
        check.due("leave(0, 2, false)", x.leave(0, 2, false), 0);
        check.due("this is left to the next write", x.version(0, 6), 1);
        check.due("write(0, 0, 1, 5)", x.write(0, 0, 1, 5), 2);
        check.due("the other part stays", x.version(0, 6), 1);
        x.addFile(0, 0);
        x.join(0, 2);
        x.leave(0, 2, true);
        check.due("files without parts are turned, too", x.write(0, 4, 0, 1), 1);
    }

    /** The bits leave the mark, so that the file is not spoiled: it is turned, and its parts have what was written. */
    private static void leaveWithSameMark() {
        Vaultgarden x = garden(2);
        x.addGroup(0, 2);
        x.join(0, 1);
        x.addFile(0, 0);
        x.write(0, 0, 0, -444361899);
        int mark = x.mark(0);
        check.due("spoil(0, 0, 8365)", x.spoil(0, 0, 8365), 62532);
        check.due("the mark of the parts", Model.mix(Model.mix(6, 0), 62532), mark);
        x.write(0, 0, 3, 9);
        check.due("a write of another part leaves the cipher", x.cipher(0, 0), 62532);
        check.due("status(0), the same mark", x.status(0), 'o');
        check.due("isSound(), the same mark", x.isSound(), false);
        check.due("leave(0, 1, false)", x.leave(0, 1, false), 0);
        check.due("the cipher, not at once", x.cipher(0, 0), 62532);
        x.join(0, 1);
        check.due("leave(0, 1, true)", x.leave(0, 1, true), 2);
        check.due("the value stays, the same mark", x.read(0, 0, 0), -444361899);
        check.due("its cipher", x.cipher(0, 0), Model.seal(-444361899, Model.keyOfPart(0, 1, 0)));
        check.due("that of the other part", x.cipher(0, 3), Model.seal(9, Model.keyOfPart(0, 1, 3)));
        check.due("the mark, written anew", x.mark(0),
                Model.mix(Model.mix(Model.mix(6, 0), x.cipher(0, 0)), x.cipher(0, 3) ^ 3));
        check.due("writes(0, 0), written anew", x.writes(0, 0), 1);
        check.due("isSound(), written anew", x.isSound(), true);
    }

    private static void isMember() {
        Vaultgarden x = garden(2);
        x.addGroup(0, 5);
        check.refused("isMember(1, 0)", NONE, () -> x.isMember(1, 0));
        check.refused("isMember(0, 2)", NONE, () -> x.isMember(0, 2));
        check.refused("isMember(0, -1)", NONE, () -> x.isMember(0, -1));
        check.due("isMember(0, 0)", x.isMember(0, 0), true);
        check.due("isMember(0, 1)", x.isMember(0, 1), false);
        x.join(0, 1);
        check.due("isMember(0, 1) then", x.isMember(0, 1), true);
        x.leave(0, 1, true);
        check.due("isMember(0, 1) after leaving", x.isMember(0, 1), false);
    }

    private static void epochAndKnown() {
        Vaultgarden x = garden(3);
        x.addGroup(0, 5);
        x.addGroup(1, 5);
        check.refused("epoch(2)", NONE, () -> x.epoch(2));
        check.refused("epoch(-1)", NONE, () -> x.epoch(-1));
        check.refused("known(2, 0)", NONE, () -> x.known(2, 0));
        check.refused("known(0, 3)", NONE, () -> x.known(0, 3));
        check.due("epoch(0)", x.epoch(0), 0);
        check.due("known(0, 0)", x.known(0, 0), 0);
        check.due("known(0, 1), never a member", x.known(0, 1), -1);
        x.join(0, 1);
        x.join(0, 2);
        x.leave(0, 1, false);
        check.due("epoch(0), one left", x.epoch(0), 1);
        check.due("epoch(1), another group", x.epoch(1), 0);
        check.due("known(0, 1), left", x.known(0, 1), 0);
        check.due("known(0, 2), stayed", x.known(0, 2), 1);
        x.leave(0, 2, true);
        check.due("known(0, 2), left", x.known(0, 2), 1);
        check.due("known(0, 0)", x.known(0, 0), 2);
        x.join(0, 1);
        check.due("known(0, 1), joined again", x.known(0, 1), 2);
        x.leave(0, 1, false);
        check.due("known(0, 1), left again", x.known(0, 1), 2);
    }

    private static void userNoughtAsMember() {
        Vaultgarden x = garden(2);
        for (int i = 0; i < 4; i++) {
            x.addGroup(1, 5);
        }
        check.due("known(3, 0), never a member", x.known(3, 0), -1);
        x.join(3, 0);
        check.due("the leaf of joining group 3", x.leaf(0), Model.mix(103, 0));
        x.leave(3, 0, false);
        check.due("the leaf of leaving group 3", x.leaf(1), Model.mix(203, 0));
        check.due("isMember(3, 0)", x.isMember(3, 0), false);
        check.due("known(3, 0), left", x.known(3, 0), 0);
        check.due("known(2, 0), another group", x.known(2, 0), -1);
        x.addFile(3, 1);
        x.addFile(0, 1);
        x.write(1, 0, 0, 1);
        x.write(1, 1, 0, 1);
        check.due("canReadByGrants(0, 0, 0), written later", x.canReadByGrants(0, 0, 0), false);
        check.due("canReadByGrants(0, 1, 0), never a member", x.canReadByGrants(0, 1, 0), false);
        x.join(0, 0);
        check.due("canReadByGrants(0, 1, 0), joined", x.canReadByGrants(0, 1, 0), true);
        x.leave(0, 0, false);
        check.due("canReadByGrants(0, 1, 0), left", x.canReadByGrants(0, 1, 0), true);
        x.write(1, 1, 0, 1);
        check.due("canReadByGrants(0, 1, 0), written again", x.canReadByGrants(0, 1, 0), false);
        check.due("isSound()", x.isSound(), true);
    }

    private static void fullLog() {
        Vaultgarden x = garden(3);
        x.addGroup(0, 5);
        x.addFile(0, 0);
        x.join(0, 1);
        for (int i = 1; i < 300; i++) {
            x.write(0, 0, 0, i);
        }
        check.due("leaves()", x.leaves(), 300);
        check.refused("join, 300 leaves", STATE, () -> x.join(0, 2));
        check.refused("leave, 300 leaves", STATE, () -> x.leave(0, 1, true));
        check.refused("leave of the owner, 300 leaves", BAD, () -> x.leave(0, 0, true));
        check.refused("leave of no member, 300 leaves", NONE, () -> x.leave(0, 2, true));
        check.refused("write, 300 leaves", STATE, () -> x.write(0, 0, 0, 1));
        check.refused("throwAway, 300 leaves", STATE, () -> x.throwAway(0, 0));
        check.due("status(0)", x.status(0), 'o');
        check.due("epoch(0)", x.epoch(0), 0);
        check.due("isMember(0, 1)", x.isMember(0, 1), true);
        x.forget(299);
        check.due("join, a leaf forgotten", x.join(0, 2), 3);
        check.refused("leave, 300 leaves again", STATE, () -> x.leave(0, 1, true));
    }
}
