import java.math.BigInteger;
import java.util.NoSuchElementException;

/** A test for each sentence of promises 49, 50 and 53, and of "Terms" and "Ciphers", that names a boundary. */
public final class BoundsOfNumbersTest {
    private static final Class<NoSuchElementException> NONE = NoSuchElementException.class;
    private static final Class<IllegalStateException> STATE = IllegalStateException.class;
    private static final int LOWEST = Integer.MIN_VALUE;
    private static final int HIGHEST = Integer.MAX_VALUE;
    private static final int[] NO_GROUPS = {-1, 2, 4, 5, LOWEST, HIGHEST};
    private static final BigInteger ROUND = BigInteger.ONE.shiftLeft(32);
    private static final int[] VALUES = {0, 1, -1, LOWEST, HIGHEST, LOWEST + 1, 1 << 27, (1 << 27) - 1, -1640531527};
    private static final Check check = new Check("BoundsOfNumbersTest");

    public static void main(String[] args) {
        ciphersGoRound();
        everyValueOpensAgain();
        marksGoRound();
        rootsGoRound();
        loadOfNone();
        loadOfEmptyAndFull();
        loadBits();
        soundWhenEmptyAndFull();
        soundWithSpoiledAndThrownAway();
        soundBetweenEpochs();
        check.end();
    }

    /** The cipher, without a machine that lets ints go round: all is taken from 0 to 2^32 - 1. */
    private static int wideCipher(int value, int key) {
        BigInteger x = unsigned(value);
        for (int r = 0; r <= 3; r++) {
            BigInteger ofRound = BigInteger.valueOf(r).multiply(BigInteger.valueOf(-1640531527));
            x = x.xor(unsigned(key).add(ofRound).mod(ROUND));
            BigInteger[] highAndLow = x.divideAndRemainder(BigInteger.ONE.shiftLeft(27));
            x = highAndLow[1].shiftLeft(5).add(highAndLow[0]);
            x = x.multiply(BigInteger.valueOf(5)).add(BigInteger.valueOf(3)).mod(ROUND);
        }
        return x.intValue();
    }

    private static BigInteger unsigned(int number) {
        return BigInteger.valueOf(number).mod(ROUND);
    }

    private static int wideMix(int a, int b) {
        return wideCipher(a, b) ^ a;
    }

    private static int wideKey(int file, int version, int part) {
        return wideMix(wideMix(wideMix(4, file), version), part);
    }

    /** "all sums and products go round like ints" */
    private static void ciphersGoRound() {
        Scene s = Scene.garden(check).with(x -> x.addFile(0, 0));
        for (int i = 0; i < VALUES.length; i++) {
            int value = VALUES[i];
            int part = i % 8;
            s.with(x -> x.write(0, 0, part, value));
            int cipher = wideCipher(value, wideKey(0, 0, part));
            s.due("the cipher of " + value, cipher, x -> x.cipher(0, part));
            s.due("its leaf", wideMix(part, cipher), x -> x.leaf(x.leaves() - 1));
        }
        for (int version = 1; version < 4; version++) {
            int now = version;
            s.with(x -> x.leave(0, 1, true)).with(x -> x.join(0, 1));
            s.due("a cipher of version " + now, wideCipher(-1, wideKey(0, now, 2)), x -> x.cipher(0, 2));
        }
    }

    /** "To open it means to do this backwards." */
    private static void everyValueOpensAgain() {
        Scene s = Scene.garden(check).with(x -> x.addFile(0, 0));
        for (int value : VALUES) {
            for (int part : new int[] {0, 7}) {
                s.with(x -> x.write(0, 0, part, value));
                s.due("read, " + value + " in part " + part, value, x -> x.read(1, 0, part));
            }
        }
        s.with(x -> x.join(0, 3)).with(x -> x.leave(0, 3, true));
        s.due("read, written anew", -1640531527, x -> x.read(1, 0, 7));
        for (int bit = 0; bit < 32; bit++) {
            int value = 1 << bit;
            s.with(x -> x.write(0, 0, 3, value));
            s.due("read, " + value, value, x -> x.read(1, 0, 3));
        }
        s.due("isSound()", true, x -> x.isSound());
    }

    private static void marksGoRound() {
        Scene s = Scene.garden(check).with(x -> x.addFile(0, 0)).with(x -> x.addFile(0, 0));
        int mark = wideMix(6, 1);
        s.due("mark(1), no parts", mark, x -> x.mark(1));
        for (int i = 0; i < 8; i++) {
            int part = i;
            s.with(x -> x.write(0, 1, part, VALUES[part]));
            mark = wideMix(mark, wideCipher(VALUES[part], wideKey(1, 0, part)) ^ part);
            s.due("mark(1), " + (part + 1) + " parts", mark, x -> x.mark(1));
        }
    }

    private static void rootsGoRound() {
        Scene s = Scene.garden(check).with(x -> x.join(1, 3)).with(x -> x.leave(1, 3, false));
        int[] roots = {wideMix(8, wideMix(100, 1)), wideMix(8, wideMix(101, 3)), wideMix(8, wideMix(201, 3))};
        s.due("root(1)", roots[0], x -> x.root(1));
        int two = wideMix(wideMix(9, roots[0]), roots[1]);
        s.due("root(2)", two, x -> x.root(2));
        s.due("root(3)", wideMix(wideMix(9, two), roots[2]), x -> x.root(3));
    }

    // ---- load, loadBits ----

    /** "Throws NoSuchElementException if there is no such group" */
    private static void loadOfNone() {
        Scene s = Scene.gardenWithFile(check);
        for (int group : NO_GROUPS) {
            s.refused("load(" + group + ")", NONE, x -> x.load(group));
            s.refused("loadBits(" + group + ")", NONE, x -> x.loadBits(group));
        }
        s.due("load(0), the first group", 1f / 12f, x -> x.load(0));
        s.due("load(1), the last group", 0f, x -> x.load(1));
        s.due("loadBits(0)", Float.floatToIntBits(1f / 12f), x -> x.loadBits(0));
        s.due("loadBits(1)", 0, x -> x.loadBits(1));
    }

    /** "Returns the number of its parts divided by the quota, both converted to float." */
    private static void loadOfEmptyAndFull() {
        Scene s = new Scene(check).with(x -> x.addUser(1)).with(x -> x.addGroup(0, 1)).with(x -> x.addGroup(0, 40));
        s.with(x -> x.addFile(0, 0));
        s.due("load(0), empty", 0f, x -> x.load(0));
        s.with(x -> x.write(0, 0, 0, 1));
        s.due("load(0), full", 1f, x -> x.load(0));
        s.refused("write, beside the quota", STATE, x -> x.write(0, 0, 1, 1));
        s.due("load(0), still full", 1f, x -> x.load(0));
        s.due("load(1), empty", 0f, x -> x.load(1));
        for (int i = 0; i < 40; i++) {
            int file = 1 + i / 8;
            int part = i % 8;
            if (part == 0) {
                s.with(x -> x.addFile(1, 0));
            }
            s.with(x -> x.write(0, file, part, 1));
            s.due("load(1), " + (i + 1) + " of 40", (float) (i + 1) / (float) 40, x -> x.load(1));
        }
        s.with(x -> x.throwAway(0, 0));
        s.due("load(0), thrown away", 1f, x -> x.load(0));
        s.with(x -> x.purge());
        s.due("load(0), purged", 0f, x -> x.load(0));
    }

    /** "as Float.floatToIntBits tells them": 0, 1, exact and rounded ones */
    private static void loadBits() {
        int[][] shares = {{0, 1, 0}, {1, 1, 0x3f800000}, {1, 2, 0x3f000000}, {1, 4, 0x3e800000}, {3, 4, 0x3f400000},
            {1, 3, 0x3eaaaaab}, {2, 3, 0x3f2aaaab}, {1, 40, 0x3ccccccd}, {1, 32, 0x3d000000}, {8, 40, 0x3e4ccccd}};
        for (int[] share : shares) {
            int quota = share[1];
            Scene s = new Scene(check).with(x -> x.addUser(1)).with(x -> x.addGroup(0, quota)).with(x -> x.addFile(0, 0));
            for (int i = 0; i < share[0]; i++) {
                int part = i;
                s.with(x -> x.write(0, 0, part, 1));
            }
            String told = "(0), " + share[0] + " of " + quota;
            s.due("loadBits" + told, share[2], x -> x.loadBits(0));
            s.due("load" + told, Float.intBitsToFloat(share[2]), x -> x.load(0));
        }
    }

    // ---- isSound ----

    /** "whether both ways to find who can read agree for all users and parts": none, and as many as there can be */
    private static void soundWhenEmptyAndFull() {
        Scene s = new Scene(check);
        s.due("isSound(), nothing at all", true, x -> x.isSound());
        for (int i = 0; i < 6; i++) {
            s.with(x -> x.addUser(1));
        }
        for (int i = 0; i < 5; i++) {
            int owner = i;
            s.with(x -> x.addGroup(owner, 40));
            for (int user = 0; user < 6; user++) {
                int other = user;
                if (other != owner) {
                    s.with(x -> x.join(owner, other));
                }
            }
        }
        s.due("isSound(), no files", true, x -> x.isSound());
        for (int i = 0; i < 20; i++) {
            int file = i;
            s.with(x -> x.addFile(file % 5, 5));
            for (int part = 0; part < 8; part++) {
                int own = part;
                s.with(x -> x.write(5, file, own, own - file));
            }
        }
        s.due("isSound(), 160 parts", true, x -> x.isSound());
        for (int i = 0; i < 5; i++) {
            int group = i;
            s.due("leave(" + group + ", 5)", group % 2 == 0 ? 32 : 0, x -> x.leave(group, 5, group % 2 == 0));
            s.due("isSound(), who left " + group, true, x -> x.isSound());
        }
    }

    /** "each part that is in a file that is neither spoiled nor thrown away opens to what was written" */
    private static void soundWithSpoiledAndThrownAway() {
        Scene s = Scene.gardenWithFile(check);
        s.due("isSound()", true, x -> x.isSound());
        s.with(x -> x.spoil(0, 0, -1));
        s.due("isSound(), spoiled", true, x -> x.isSound());
        s.with(x -> x.throwAway(0, 0));
        s.due("isSound(), spoiled and thrown away", true, x -> x.isSound());
        s.with(x -> x.purge());
        s.due("isSound(), purged", true, x -> x.isSound());
        int[] ciphers = RandomRunsTest.ciphersOfSameMark(Model.mix(6, 0), 0);
        int value = Model.unseal(ciphers[0], Model.keyOfPart(0, 0, 0));
        Scene sly = Scene.garden(check).with(x -> x.addFile(0, 0)).with(x -> x.write(0, 0, 0, value));
        sly.with(x -> x.spoil(0, 0, ciphers[0] ^ ciphers[1]));
        sly.due("status(0), another cipher of the same mark", 'o', x -> x.status(0));
        sly.due("isSound(), another cipher of the same mark", false, x -> x.isSound());
        sly.with(x -> x.throwAway(0, 0));
        sly.due("isSound(), thrown away", true, x -> x.isSound());
    }

    private static void soundBetweenEpochs() {
        Scene s = Scene.gardenWithFile(check).with(x -> x.write(0, 0, 7, 77)).with(x -> x.addFile(1, 2));
        for (int i = 0; i < 8; i++) {
            boolean isAtOnce = i % 3 == 0;
            int part = i;
            s.with(x -> x.leave(0, 1, isAtOnce));
            s.due("isSound(), left", true, x -> x.isSound());
            s.with(x -> x.write(0, 0, part, part));
            s.due("isSound(), written", true, x -> x.isSound());
            s.with(x -> x.join(0, 1));
            s.due("isSound(), joined again", true, x -> x.isSound());
        }
    }
}
