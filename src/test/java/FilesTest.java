import java.util.NoSuchElementException;

/** Promises 9 to 22. */
public final class FilesTest {
    private static final Class<NoSuchElementException> NONE = NoSuchElementException.class;
    private static final Class<IllegalArgumentException> BAD = IllegalArgumentException.class;
    private static final Class<IllegalStateException> STATE = IllegalStateException.class;
    private static final Class<UnsupportedOperationException> RIGHT = UnsupportedOperationException.class;
    private static final Check check = new Check("FilesTest");

    public static void main(String[] args) {
        addFile();
        write();
        quota();
        read();
        whoCanRead();
        whatIsKept();
        noSuchPart();
        spoil();
        throwAwayAndPurge();
        check.end();
    }

    /** Users 0 to 3; group 0 with the owner 0 and the member 1, group 1 with the owner 2. */
    private static Vaultgarden garden() {
        Vaultgarden x = new Vaultgarden();
        for (int i = 0; i < 4; i++) {
            x.addUser(i);
        }
        x.addGroup(0, 12);
        x.addGroup(2, 2);
        x.join(0, 1);
        return x;
    }

    private static void addFile() {
        Vaultgarden x = garden();
        check.refused("addFile(2, 0)", NONE, () -> x.addFile(2, 0));
        check.refused("addFile(0, 4)", NONE, () -> x.addFile(0, 4));
        check.refused("addFile(0, 2), no member", RIGHT, () -> x.addFile(0, 2));
        check.due("addFile(0, 1)", x.addFile(0, 1), 0);
        check.due("no parts", x.parts(0), 0);
        check.due("no leaf", x.leaves(), 1);
        for (int i = 1; i < 20; i++) {
            check.due("addFile(1, 2)", x.addFile(1, 2), i);
        }
        check.refused("addFile, the 21st", STATE, () -> x.addFile(1, 2));
        check.refused("addFile, the 21st, by no member", RIGHT, () -> x.addFile(1, 0));
        check.refused("addFile, the 21st, by no user", NONE, () -> x.addFile(1, 9));
        Vaultgarden y = garden();
        y.leave(0, 1, true);
        y.addFile(0, 0);
        check.due("a file's first version has the present epoch", y.write(0, 0, 0, 1), 0);
        check.due("so that who left cannot read", y.canRead(1, 0, 0), false);
    }

    private static void write() {
        Vaultgarden x = garden();
        x.addFile(0, 0);
        check.refused("write(4, 0, 0, 1)", NONE, () -> x.write(4, 0, 0, 1));
        check.refused("write(0, 1, 9, 1)", NONE, () -> x.write(0, 1, 9, 1));
        check.refused("write(2, 0, 8, 1)", BAD, () -> x.write(2, 0, 8, 1));
        check.refused("write(2, 0, -1, 1)", BAD, () -> x.write(2, 0, -1, 1));
        check.refused("write(2, 0, 0, 1)", RIGHT, () -> x.write(2, 0, 0, 1));
        check.due("write(1, 0, 7, min)", x.write(1, 0, 7, Integer.MIN_VALUE), 0);
        check.due("read(0, 0, 7)", x.read(0, 0, 7), Integer.MIN_VALUE);
        check.due("its leaf", x.leaf(1), Model.mix(7, x.cipher(0, 7)));
        check.due("write(0, 0, 0, -1)", x.write(0, 0, 0, -1), 0);
        check.due("writes(0, 0)", x.writes(0, 0), 1);
        x.goAway(1);
        check.refused("write while away", STATE, () -> x.write(1, 0, 0, 5));
        x.comeBack(1);
        check.due("write, back", x.write(1, 0, 0, 5), 0);
        x.leave(0, 1, false);
        check.refused("write, left", RIGHT, () -> x.write(1, 0, 0, 5));
        x.join(0, 3);
        x.leave(0, 3, false);
        check.due("the key is turned once for two who left", x.write(0, 0, 0, 6), 1);
        check.due("and not again", x.write(0, 0, 1, 6), 1);
        x.spoil(0, 0, 1);
        check.refused("write, spoiled", STATE, () -> x.write(0, 0, 0, 5));
        check.refused("write, spoiled, by no member", RIGHT, () -> x.write(1, 0, 0, 5));
        x.spoil(0, 0, 1);
        x.throwAway(0, 0);
        check.refused("write, thrown away", STATE, () -> x.write(0, 0, 0, 5));
        x.addFile(0, 0);
        x.addFile(0, 0);
        x.write(0, 2, 5, 77);
        check.due("the leaf of part 5 of file 2", x.leaf(x.leaves() - 1), Model.mix(21, x.cipher(2, 5)));
    }

    private static void quota() {
        Vaultgarden x = garden();
        x.addFile(1, 2);
        x.addFile(1, 2);
        x.addFile(0, 0);
        x.write(0, 2, 0, 1);
        x.write(2, 0, 0, 1);
        x.write(2, 1, 3, 1);
        check.refused("a third part, quota 2", STATE, () -> x.write(2, 0, 1, 1));
        check.refused("the same in the other file", STATE, () -> x.write(2, 1, 0, 1));
        check.due("parts(1)", x.parts(1), 2);
        check.due("a part that is there", x.write(2, 1, 3, 2), 0);
        x.throwAway(2, 1);
        check.refused("thrown away, not purged", STATE, () -> x.write(2, 0, 1, 1));
        check.due("purge()", x.purge(), 1);
        check.due("purged", x.write(2, 0, 1, 1), 0);
    }

    private static void read() {
        Vaultgarden x = garden();
        x.addFile(0, 0);
        x.write(0, 0, 2, 99);
        check.refused("read(4, 0, 9)", NONE, () -> x.read(4, 0, 9));
        check.refused("read(0, 1, 9)", NONE, () -> x.read(0, 1, 9));
        check.refused("read(0, 0, 8)", BAD, () -> x.read(0, 0, 8));
        check.refused("read(0, 0, -1)", BAD, () -> x.read(0, 0, -1));
        check.refused("read(0, 0, 3), not there", NONE, () -> x.read(0, 0, 3));
        check.refused("read(3, 0, 2), no key", RIGHT, () -> x.read(3, 0, 2));
        check.due("read(1, 0, 2)", x.read(1, 0, 2), 99);
        x.goAway(1);
        check.due("read while away", x.read(1, 0, 2), 99);
        x.leave(0, 1, false);
        check.due("read(1, 0, 2), left", x.read(1, 0, 2), 99);
        x.write(0, 0, 2, 100);
        check.refused("read(1, 0, 2), written later", RIGHT, () -> x.read(1, 0, 2));
        x.spoil(0, 2, 4);
        check.refused("read, spoiled", STATE, () -> x.read(0, 0, 2));
        check.refused("read, spoiled, no key", STATE, () -> x.read(3, 0, 2));
        check.refused("read, spoiled, not there", NONE, () -> x.read(0, 0, 3));
        x.spoil(0, 2, 4);
        check.due("read, no more spoiled", x.read(0, 0, 2), 100);
        x.throwAway(0, 0);
        check.refused("read, thrown away", STATE, () -> x.read(0, 0, 2));
        x.purge();
        check.refused("read, purged", NONE, () -> x.read(0, 0, 2));
    }

    private static void whoCanRead() {
        Vaultgarden x = garden();
        x.addFile(0, 0);
        x.write(0, 0, 0, 1);
        x.write(0, 0, 1, 1);
        bothWays(x, 0, 0, 0, true);
        bothWays(x, 1, 0, 0, true);
        bothWays(x, 3, 0, 0, false);
        x.leave(0, 1, false);
        bothWays(x, 1, 0, 0, true);
        x.join(0, 3);
        bothWays(x, 3, 0, 0, true);
        x.write(0, 0, 0, 2);
        bothWays(x, 1, 0, 0, false);
        bothWays(x, 1, 0, 1, true);
        x.spoil(0, 1, 1);
        bothWays(x, 1, 0, 1, true);
        x.leave(0, 3, true);
        bothWays(x, 3, 0, 0, true);
        x.spoil(0, 1, 1);
        x.join(0, 3);
        x.leave(0, 3, true);
        bothWays(x, 3, 0, 0, false);
        bothWays(x, 3, 0, 1, false);
        bothWays(x, 1, 0, 1, false);
        x.join(0, 1);
        bothWays(x, 1, 0, 0, true);
        x.throwAway(0, 0);
        bothWays(x, 1, 0, 0, true);
        x.leave(0, 1, true);
        bothWays(x, 1, 0, 0, true);
        bothWays(x, 2, 0, 0, false);
        check.due("isSound()", x.isSound(), true);
        for (int part : new int[] {-1, 8}) {
            check.refused("canRead, part " + part, BAD, () -> x.canRead(0, 0, part));
            check.refused("canReadByGrants, part " + part, BAD, () -> x.canReadByGrants(0, 0, part));
        }
        check.refused("canRead(0, 0, 5)", NONE, () -> x.canRead(0, 0, 5));
        check.refused("canReadByGrants(0, 0, 5)", NONE, () -> x.canReadByGrants(0, 0, 5));
        check.refused("canRead(4, 0, 8)", NONE, () -> x.canRead(4, 0, 8));
        check.refused("canReadByGrants(4, 0, 8)", NONE, () -> x.canReadByGrants(4, 0, 8));
        check.refused("canRead(0, 1, 8)", NONE, () -> x.canRead(0, 1, 8));
        check.refused("canReadByGrants(0, 1, 8)", NONE, () -> x.canReadByGrants(0, 1, 8));
        x.purge();
        check.refused("canRead, purged", NONE, () -> x.canRead(0, 0, 0));
        check.refused("canReadByGrants, purged", NONE, () -> x.canReadByGrants(0, 0, 0));
    }

    private static void bothWays(Vaultgarden x, int user, int file, int part, boolean want) {
        String told = "(" + user + ", " + file + ", " + part + ")";
        check.due("canRead" + told, x.canRead(user, file, part), want);
        check.due("canReadByGrants" + told, x.canReadByGrants(user, file, part), want);
    }

    /** The numbers are those of the first run under ../shared/tests. */
    private static void whatIsKept() {
        Vaultgarden x = garden();
        x.addFile(0, 1);
        check.due("mark(0) without parts", x.mark(0), Model.mix(6, 0));
        x.write(1, 0, 0, 77);
        x.write(1, 0, 3, -5);
        check.due("cipher(0, 0)", x.cipher(0, 0), -9835617);
        check.due("mark(0)", x.mark(0), 214800813);
        check.due("version(0, 3)", x.version(0, 3), 0);
        check.due("writes(0, 3)", x.writes(0, 3), 1);
        check.due("writes(0, 4), not there", x.writes(0, 4), 0);
        x.write(0, 0, 3, -5);
        check.due("writes(0, 3), twice", x.writes(0, 3), 2);
        check.due("the same value has the same cipher", x.mark(0), 214800813);
        x.join(0, 3);
        x.leave(0, 3, false);
        x.write(0, 0, 3, -5);
        check.due("version(0, 3), turned", x.version(0, 3), 1);
        check.due("version(0, 0), as it was", x.version(0, 0), 0);
        check.due("cipher(0, 0), as it was", x.cipher(0, 0), -9835617);
        check.due("cipher(0, 3)", x.cipher(0, 3), Model.seal(-5, Model.keyOfPart(0, 1, 3)));
        check.refused("mark(1)", NONE, () -> x.mark(1));
        check.refused("mark(-1)", NONE, () -> x.mark(-1));
    }

    private static void noSuchPart() {
        Vaultgarden x = garden();
        x.addFile(0, 0);
        for (int part : new int[] {-1, 8, Integer.MAX_VALUE, Integer.MIN_VALUE}) {
            check.refused("cipher(0, " + part + ")", BAD, () -> x.cipher(0, part));
            check.refused("version(0, " + part + ")", BAD, () -> x.version(0, part));
            check.refused("writes(0, " + part + ")", BAD, () -> x.writes(0, part));
            check.refused("spoil(0, " + part + ")", BAD, () -> x.spoil(0, part, 1));
            check.refused("cipher(1, " + part + ")", NONE, () -> x.cipher(1, part));
            check.refused("version(1, " + part + ")", NONE, () -> x.version(1, part));
            check.refused("writes(-1, " + part + ")", NONE, () -> x.writes(-1, part));
            check.refused("spoil(1, " + part + ")", NONE, () -> x.spoil(1, part, 1));
        }
        check.refused("cipher(0, 7), not there", NONE, () -> x.cipher(0, 7));
        check.refused("version(0, 7), not there", NONE, () -> x.version(0, 7));
        check.refused("spoil(0, 7), not there", NONE, () -> x.spoil(0, 7, 1));
    }

    private static void spoil() {
        Vaultgarden x = garden();
        x.addFile(0, 0);
        x.write(0, 0, 0, 1);
        x.write(0, 0, 1, 2);
        int cipher = x.cipher(0, 0);
        int mark = x.mark(0);
        check.due("status(0)", x.status(0), 'o');
        check.due("spoil by nothing", x.spoil(0, 0, 0), cipher);
        check.due("status(0), spoilt by nothing", x.status(0), 'o');
        check.due("spoil(0, 0, -1)", x.spoil(0, 0, -1), ~cipher);
        check.due("status(0), spoiled", x.status(0), 's');
        check.due("the mark stays", x.mark(0), mark);
        check.due("no leaf", x.leaves(), 3);
        check.due("no write", x.writes(0, 0), 1);
        check.due("isSound(), spoiled", x.isSound(), true);
        check.due("spoil back", x.spoil(0, 0, -1), cipher);
        check.due("status(0), as before", x.status(0), 'o');
        check.due("spoil(0, 1, 8)", x.spoil(0, 1, 8), x.cipher(0, 1));
        x.throwAway(0, 0);
        check.due("status(0), thrown away", x.status(0), 'x');
        check.due("spoil in a file that is thrown away", x.spoil(0, 0, 2), cipher ^ 2);
        check.refused("status(1)", NONE, () -> x.status(1));
        check.refused("status(-1)", NONE, () -> x.status(-1));
    }

    private static void throwAwayAndPurge() {
        Vaultgarden x = garden();
        x.addFile(0, 1);
        x.addFile(0, 1);
        x.addFile(1, 2);
        x.write(0, 0, 0, 1);
        x.write(0, 0, 4, 1);
        x.write(0, 1, 4, 1);
        x.write(2, 2, 4, 1);
        check.refused("throwAway(4, 0)", NONE, () -> x.throwAway(4, 0));
        check.refused("throwAway(0, 3)", NONE, () -> x.throwAway(0, 3));
        check.refused("throwAway(1, 0), a member", RIGHT, () -> x.throwAway(1, 0));
        check.refused("throwAway(2, 0), the owner of another group", RIGHT, () -> x.throwAway(2, 0));
        check.due("purge(), none thrown away", x.purge(), 0);
        int leaves = x.leaves();
        int mark = x.mark(0);
        check.due("throwAway(0, 0)", x.throwAway(0, 0), 2);
        check.due("its leaf", x.leaf(leaves), Model.mix(300, 0));
        check.refused("throwAway(0, 0) again", STATE, () -> x.throwAway(0, 0));
        check.refused("throwAway(1, 0) again", RIGHT, () -> x.throwAway(1, 0));
        check.due("parts(0), not purged", x.parts(0), 3);
        check.due("cipher(0, 4), not purged", x.cipher(0, 4), Model.seal(1, Model.keyOfPart(0, 0, 4)));
        check.due("purge()", x.purge(), 2);
        check.due("purge() again", x.purge(), 0);
        check.due("parts(0), purged", x.parts(0), 1);
        check.due("parts(1)", x.parts(1), 1);
        check.due("status(0), purged", x.status(0), 'x');
        check.due("mark(0), purged", x.mark(0), mark);
        check.due("writes(0, 0), purged", x.writes(0, 0), 0);
        check.due("purge tells the log nothing", x.leaves(), leaves + 1);
        x.spoil(1, 4, 1);
        check.due("throwAway, spoiled", x.throwAway(0, 1), 1);
        x.goAway(2);
        check.due("throwAway while away", x.throwAway(2, 2), 1);
        check.due("purge(), two files", x.purge(), 2);
        x.addFile(1, 2);
        check.due("throwAway, no parts", x.throwAway(2, 3), 0);
        check.refused("parts(2)", NONE, () -> x.parts(2));
        check.refused("parts(-1)", NONE, () -> x.parts(-1));
    }
}
