import java.math.BigInteger;
import java.util.NoSuchElementException;

/** A test for each sentence of promises 39 to 43 and of "Shares" that names a boundary. */
public final class BoundsOfSharesTest {
    private static final Class<NoSuchElementException> NONE = NoSuchElementException.class;
    private static final Class<IllegalArgumentException> BAD = IllegalArgumentException.class;
    private static final Class<IllegalStateException> STATE = IllegalStateException.class;
    private static final Class<IndexOutOfBoundsException> PLACE = IndexOutOfBoundsException.class;
    private static final int LOWEST = Integer.MIN_VALUE;
    private static final int HIGHEST = Integer.MAX_VALUE;
    private static final int[] NO_USERS = {-1, 4, 5, 6, LOWEST, HIGHEST};
    private static final int MODULUS = 65521;
    private static final Check check = new Check("BoundsOfSharesTest");

    public static void main(String[] args) {
        splitNoUser();
        manyOutOfRange();
        neededOutOfRange();
        reasonsOfSplit();
        neededBefore();
        shareOfNoUser();
        shareNotSplit();
        noSuchShare();
        reasonsOfShare();
        everyShare();
        placeOutOfRange();
        shareOutOfRange();
        collectInPlaceOfOne();
        recoveredFromNone();
        recoveredFromOneAndAll();
        recoveredGoesRound();
        recoveredFromSharesNeeded();
        drop();
        check.end();
    }

    // ---- split ----

    /** "Throws NoSuchElementException if there is no such user" */
    private static void splitNoUser() {
        Scene s = Scene.garden(check);
        for (int user : NO_USERS) {
            s.refused("split(" + user + ", 3, 2)", NONE, x -> x.split(user, 3, 2));
        }
        s.due("split(0, 3, 2), the first user", 0, x -> x.split(0, 3, 2));
        s.due("split(3, 3, 2), the last user", 0, x -> x.split(3, 3, 2));
    }

    /** "many: the number of shares, 1 to 8"; "Throws IllegalArgumentException if a number is out of range" */
    private static void manyOutOfRange() {
        Scene s = Scene.garden(check).with(x -> x.split(0, 5, 3));
        for (int many : new int[] {0, -1, 9, LOWEST, HIGHEST}) {
            s.refused("split(0, " + many + ", 1)", BAD, x -> x.split(0, many, 1));
            s.refused("split(0, " + many + ", " + many + ")", BAD, x -> x.split(0, many, many));
        }
        s.due("split(0, 1, 1)", 3, x -> x.split(0, 1, 1));
        s.due("split(0, 8, 1)", 1, x -> x.split(0, 8, 1));
        s.due("split(0, 8, 8)", 1, x -> x.split(0, 8, 8));
    }

    /** "needed: how many are needed, from 1 to these" */
    private static void neededOutOfRange() {
        Scene s = Scene.garden(check).with(x -> x.split(0, 5, 3));
        for (int needed : new int[] {0, -1, 6, 8, 9, LOWEST, HIGHEST}) {
            s.refused("split(0, 5, " + needed + ")", BAD, x -> x.split(0, 5, needed));
        }
        s.refused("split(0, 1, 2)", BAD, x -> x.split(0, 1, 2));
        s.refused("split(0, 8, 9)", BAD, x -> x.split(0, 8, 9));
        s.due("split(0, 5, 1)", 3, x -> x.split(0, 5, 1));
        s.due("split(0, 5, 5)", 1, x -> x.split(0, 5, 5));
        s.due("split(0, 8, 7)", 5, x -> x.split(0, 8, 7));
    }

    private static void reasonsOfSplit() {
        Scene s = Scene.garden(check);
        s.refused("split(4, 0, 0)", NONE, x -> x.split(4, 0, 0));
        s.refused("split(-1, 9, 1)", NONE, x -> x.split(-1, 9, 1));
        s.refused("split(4, 3, 4)", NONE, x -> x.split(4, 3, 4));
    }

    /** "Returns how many were needed before, 0 if it was not split."; "in place of an earlier splitting" */
    private static void neededBefore() {
        Scene s = Scene.garden(check);
        s.due("split(1, 8, 5), not split", 0, x -> x.split(1, 8, 5));
        s.due("split(2, 8, 4), another user", 0, x -> x.split(2, 8, 4));
        s.due("split(1, 2, 1), in place of it", 5, x -> x.split(1, 2, 1));
        s.refused("share(1, 3), of the earlier ones", PLACE, x -> x.share(1, 3));
        s.due("share(1, 2)", 1, x -> x.share(1, 2));
        s.refused("split(1, 0, 0)", BAD, x -> x.split(1, 0, 0));
        s.due("split(1, 2, 1), after a refused one", 1, x -> x.split(1, 2, 1));
    }

    // ---- share ----

    /** "Throws NoSuchElementException if there is no such user" */
    private static void shareOfNoUser() {
        Scene s = Scene.garden(check).with(x -> x.split(3, 3, 2));
        for (int user : NO_USERS) {
            s.refused("share(" + user + ", 1)", NONE, x -> x.share(user, 1));
        }
        s.due("share(3, 1)", shareOf(3, 3, 2, 1), x -> x.share(3, 1));
    }

    /** "Throws IllegalStateException if it is not split" */
    private static void shareNotSplit() {
        Scene s = Scene.garden(check);
        for (int place : new int[] {1, 8}) {
            s.refused("share(0, " + place + ")", STATE, x -> x.share(0, place));
        }
        s.with(x -> x.split(1, 3, 2));
        s.refused("share(0, 1), another user's is split", STATE, x -> x.share(0, 1));
        s.refused("split(0, 9, 1)", BAD, x -> x.split(0, 9, 1));
        s.refused("share(0, 1), a refused splitting", STATE, x -> x.share(0, 1));
        s.with(x -> x.split(0, 1, 1));
        s.due("share(0, 1)", 0, x -> x.share(0, 1));
    }

    /** "place: the place, from 1 on"; "Throws IndexOutOfBoundsException if there is no such share" */
    private static void noSuchShare() {
        Scene s = Scene.garden(check).with(x -> x.split(1, 5, 3)).with(x -> x.split(2, 8, 8)).with(x -> x.split(3, 1, 1));
        for (int place : new int[] {0, -1, 6, 8, 9, LOWEST, HIGHEST}) {
            s.refused("share(1, " + place + ")", PLACE, x -> x.share(1, place));
        }
        s.due("share(1, 1), the first of 5", shareOf(1, 1, 3, 1), x -> x.share(1, 1));
        s.due("share(1, 5), the last of 5", shareOf(1, 1, 3, 5), x -> x.share(1, 5));
        s.due("share(2, 8), the last of 8", shareOf(2, 2, 8, 8), x -> x.share(2, 8));
        s.refused("share(2, 9), beside 8", PLACE, x -> x.share(2, 9));
        s.due("share(3, 1), the only one", 3, x -> x.share(3, 1));
        s.refused("share(3, 2), beside the only one", PLACE, x -> x.share(3, 2));
    }

    private static void reasonsOfShare() {
        Scene s = Scene.garden(check).with(x -> x.split(1, 5, 3));
        s.refused("share(4, 0), no user", NONE, x -> x.share(4, 0));
        s.refused("share(4, 1), no user", NONE, x -> x.share(4, 1));
        for (int place : new int[] {0, -1, 9}) {
            s.refused("share(0, " + place + "), not split", STATE, x -> x.share(0, place));
        }
    }

    /** "coefficient j, from 1 on, is the mix of the mix of 3 and the user, and j, modulo 65521, taken from 0 on" */
    private static void everyShare() {
        Scene s = new Scene(check);
        int[] secrets = {0, 9999, 1, 1234, 65, 9998};
        for (int secret : secrets) {
            s.with(x -> x.addUser(secret));
        }
        int negative = 0;
        for (int i = 0; i < 6; i++) {
            int user = i;
            for (int needed : new int[] {1, 2, 5, 8}) {
                s.with(x -> x.split(user, 8, needed));
                for (int place = 1; place <= 8; place++) {
                    int own = place;
                    String told = "share(" + user + ", " + place + "), needed " + needed;
                    s.due(told, shareOf(user, secrets[user], needed, place), x -> x.share(user, own));
                }
            }
            for (int j = 1; j < 8; j++) {
                negative += Model.mix(Model.mix(3, user), j) < 0 ? 1 : 0;
            }
        }
        check.due("some of the mixes are below 0", negative > 5, true);
    }

    private static int shareOf(int user, int secret, int needed, int place) {
        BigInteger sum = BigInteger.valueOf(secret);
        for (int j = 1; j < needed; j++) {
            BigInteger coefficient = BigInteger.valueOf(Model.mix(Model.mix(3, user), j)).mod(BigInteger.valueOf(MODULUS));
            sum = sum.add(coefficient.multiply(BigInteger.valueOf(place).pow(j)));
        }
        return sum.mod(BigInteger.valueOf(MODULUS)).intValue();
    }

    // ---- collect ----

    /** "place: the place, 1 to 8"; "Throws IllegalArgumentException if a number is out of range" */
    private static void placeOutOfRange() {
        Scene s = Scene.garden(check).with(x -> x.collect(4, 100));
        for (int place : new int[] {0, -1, 9, LOWEST, HIGHEST}) {
            s.refused("collect(" + place + ", 5)", BAD, x -> x.collect(place, 5));
            s.refused("collect(" + place + ", -1)", BAD, x -> x.collect(place, -1));
        }
        s.due("collect(1, 5)", 2, x -> x.collect(1, 5));
        s.due("collect(8, 5)", 3, x -> x.collect(8, 5));
    }

    /** "share: the share, 0 to 65520" */
    private static void shareOutOfRange() {
        Scene s = Scene.garden(check).with(x -> x.collect(4, 100));
        for (int share : new int[] {-1, 65521, 65536, LOWEST, HIGHEST}) {
            s.refused("collect(1, " + share + ")", BAD, x -> x.collect(1, share));
            s.refused("collect(4, " + share + "), in place of one", BAD, x -> x.collect(4, share));
        }
        s.due("recovered(), the refused ones are not kept", 100, x -> x.recovered());
        s.due("collect(4, 0)", 1, x -> x.collect(4, 0));
        s.due("recovered(), 0", 0, x -> x.recovered());
        s.due("collect(4, 65520)", 1, x -> x.collect(4, 65520));
        s.due("recovered(), 65520", 65520, x -> x.recovered());
    }

    /** "in place of one with the same place"; "Returns how many are collected then." */
    private static void collectInPlaceOfOne() {
        Scene s = Scene.garden(check);
        for (int i = 1; i <= 8; i++) {
            int place = i;
            s.due("collect(" + place + ", 5)", place, x -> x.collect(place, 5));
            s.due("collect(" + place + ", 6) again", place, x -> x.collect(place, 6));
        }
        s.due("collect(1, 6), there", 8, x -> x.collect(1, 6));
        s.due("recovered(), the later ones", 6, x -> x.recovered());
        s.due("drop()", 8, x -> x.drop());
    }

    // ---- recovered, drop ----

    /** "Throws IllegalStateException if none is collected" */
    private static void recoveredFromNone() {
        Scene s = Scene.garden(check).with(x -> x.split(0, 3, 2));
        s.refused("recovered(), none", STATE, x -> x.recovered());
        s.refused("collect(9, 0)", BAD, x -> x.collect(9, 0));
        s.refused("recovered(), a refused one", STATE, x -> x.recovered());
        s.with(x -> x.collect(8, 0));
        s.due("recovered(), one of 0", 0, x -> x.recovered());
        s.with(x -> x.drop());
        s.refused("recovered(), dropped", STATE, x -> x.recovered());
    }

    /** "the value at 0 of the polynomial of the least degree that goes through them" */
    private static void recoveredFromOneAndAll() {
        Scene s = Scene.garden(check);
        for (int i = 1; i <= 8; i++) {
            int place = i;
            s.with(x -> x.collect(place, 77));
            s.due("recovered(), " + place + " of the same", 77, x -> x.recovered());
        }
        s.with(x -> x.drop());
        for (int place : new int[] {1, 8}) {
            s.with(x -> x.collect(place, 65520));
            s.due("recovered(), place " + place + " alone", 65520, x -> x.recovered());
            s.with(x -> x.drop());
        }
        for (int i = 1; i <= 8; i++) {
            int place = i;
            s.with(x -> x.collect(place, place * place * place + 9));
        }
        s.due("recovered(), eight of a cubic", 9, x -> x.recovered());
    }

    /** "modulo 65521": below 0 and above the modulus the numbers go round. */
    private static void recoveredGoesRound() {
        Scene s = Scene.garden(check).with(x -> x.collect(1, 0)).with(x -> x.collect(2, 1));
        s.due("recovered(), a line at -1", 65520, x -> x.recovered());
        s.with(x -> x.collect(1, 65520)).with(x -> x.collect(2, 0));
        s.due("recovered(), a line at 131040", 65519, x -> x.recovered());
        s.with(x -> x.collect(1, 65520)).with(x -> x.collect(2, 65519));
        s.due("recovered(), a line at 65521", 0, x -> x.recovered());
        s.with(x -> x.drop()).with(x -> x.collect(2, 1)).with(x -> x.collect(5, 0));
        s.due("recovered(), a line at 5/3", 5 * inverse(3) % MODULUS, x -> x.recovered());
        s.with(x -> x.drop()).with(x -> x.collect(1, 1)).with(x -> x.collect(8, 65520));
        s.due("recovered(), a line at 9/7", 9 * inverse(7) % MODULUS, x -> x.recovered());
    }

    private static int inverse(int number) {
        return BigInteger.valueOf(number).modInverse(BigInteger.valueOf(MODULUS)).intValue();
    }

    /** As many as are needed are enough, whichever they are; more are as good, one less is not enough. */
    private static void recoveredFromSharesNeeded() {
        Scene s = new Scene(check).with(x -> x.addUser(9999)).with(x -> x.split(0, 8, 3));
        int[][] rows = {{1, 2, 3}, {6, 7, 8}, {1, 8, 4}, {1, 2, 3, 4, 5, 6, 7, 8}};
        for (int[] places : rows) {
            for (int place : places) {
                s.with(x -> x.collect(place, x.share(0, place)));
            }
            s.due("recovered(), from " + places.length, 9999, x -> x.recovered());
            s.with(x -> x.drop());
        }
        s.with(x -> x.collect(1, x.share(0, 1))).with(x -> x.collect(2, x.share(0, 2)));
        s.due("recovered(), one less", false, x -> x.recovered() == 9999);
    }

    /** "Returns how many there were." */
    private static void drop() {
        Scene s = Scene.garden(check);
        s.due("drop(), none", 0, x -> x.drop());
        s.with(x -> x.collect(8, 1));
        s.due("drop(), one", 1, x -> x.drop());
        s.due("drop() again", 0, x -> x.drop());
        for (int i = 1; i <= 8; i++) {
            int place = i;
            s.with(x -> x.collect(place, 1));
        }
        s.due("drop(), eight", 8, x -> x.drop());
        s.due("collect(3, 12), the first again", 1, x -> x.collect(3, 12));
        s.due("recovered(), of this alone", 12, x -> x.recovered());
    }
}
