import java.util.NoSuchElementException;

/** Promises 39 to 43. */
public final class SharesTest {
    private static final Class<NoSuchElementException> NONE = NoSuchElementException.class;
    private static final Class<IllegalArgumentException> BAD = IllegalArgumentException.class;
    private static final Class<IllegalStateException> STATE = IllegalStateException.class;
    private static final Class<IndexOutOfBoundsException> PLACE = IndexOutOfBoundsException.class;
    private static final Check check = new Check("SharesTest");

    public static void main(String[] args) {
        split();
        share();
        collect();
        recovered();
        everySecretComesBack();
        check.end();
    }

    private static Vaultgarden garden() {
        Vaultgarden x = new Vaultgarden();
        x.addUser(1234);
        x.addUser(9999);
        x.addUser(0);
        return x;
    }

    private static void split() {
        Vaultgarden x = garden();
        check.refused("split(3, 0, 0)", NONE, () -> x.split(3, 0, 0));
        check.refused("split(-1, 3, 2)", NONE, () -> x.split(-1, 3, 2));
        check.refused("split(0, 0, 0)", BAD, () -> x.split(0, 0, 0));
        check.refused("split(0, 9, 3)", BAD, () -> x.split(0, 9, 3));
        check.refused("split(0, 5, 6)", BAD, () -> x.split(0, 5, 6));
        check.refused("split(0, 5, 0)", BAD, () -> x.split(0, 5, 0));
        check.refused("split(0, 5, -1)", BAD, () -> x.split(0, 5, -1));
        check.refused("share(0, 1), not split", STATE, () -> x.share(0, 1));
        check.due("split(0, 8, 8)", x.split(0, 8, 8), 0);
        check.due("split(0, 1, 1)", x.split(0, 1, 1), 8);
        check.due("split(0, 5, 3)", x.split(0, 5, 3), 1);
        check.refused("split(0, 5, 6), split", BAD, () -> x.split(0, 5, 6));
        check.due("split(0, 4, 2)", x.split(0, 4, 2), 3);
        check.due("split(1, 4, 2), another user", x.split(1, 4, 2), 0);
    }

    /** The numbers are those of the runs under ../shared/tests. */
    private static void share() {
        Vaultgarden x = garden();
        x.split(0, 5, 3);
        check.due("share(0, 1)", x.share(0, 1), 4927);
        check.due("share(0, 2)", x.share(0, 2), 23563);
        check.due("share(0, 5)", x.share(0, 5), 38087);
        check.refused("share(3, 9)", NONE, () -> x.share(3, 9));
        check.refused("share(1, 9), not split", STATE, () -> x.share(1, 9));
        check.refused("share(0, 6)", PLACE, () -> x.share(0, 6));
        check.refused("share(0, 0)", PLACE, () -> x.share(0, 0));
        check.refused("share(0, -1)", PLACE, () -> x.share(0, -1));
        x.split(0, 4, 1);
        check.due("share(0, 4), one is enough", x.share(0, 4), 1234);
        check.refused("share(0, 5), split anew", PLACE, () -> x.share(0, 5));
    }

    private static void collect() {
        Vaultgarden x = garden();
        check.refused("collect(0, 1)", BAD, () -> x.collect(0, 1));
        check.refused("collect(9, 1)", BAD, () -> x.collect(9, 1));
        check.refused("collect(1, -1)", BAD, () -> x.collect(1, -1));
        check.refused("collect(1, 65521)", BAD, () -> x.collect(1, 65521));
        check.due("drop(), none", x.drop(), 0);
        check.due("collect(8, 65520)", x.collect(8, 65520), 1);
        check.due("collect(8, 0), the same place", x.collect(8, 0), 1);
        check.due("recovered(), the later one", x.recovered(), 0);
        check.due("collect(1, 5)", x.collect(1, 5), 2);
        check.due("drop()", x.drop(), 2);
        check.due("drop() again", x.drop(), 0);
        check.due("collect(2, 5), dropped", x.collect(2, 5), 1);
        check.due("recovered(), dropped", x.recovered(), 5);
    }

    private static void recovered() {
        Vaultgarden x = garden();
        check.refused("recovered(), none", STATE, () -> x.recovered());
        x.collect(1, 100);
        check.due("one share", x.recovered(), 100);
        x.collect(2, 200);
        check.due("a line through 0", x.recovered(), 0);
        x.collect(2, 101);
        check.due("a line", x.recovered(), 99);
        x.collect(2, 201);
        check.due("a line below 0", x.recovered(), 65520);
        x.drop();
        x.collect(1, 1);
        x.collect(2, 4);
        x.collect(3, 9);
        check.due("a square", x.recovered(), 0);
        x.collect(4, 17);
        check.due("a cubic, off by 1 at 4", x.recovered(), 65520);
        x.drop();
        check.refused("recovered(), dropped", STATE, () -> x.recovered());
        for (int place = 1; place <= 8; place++) {
            x.collect(place, 65520);
        }
        check.due("eight times the same", x.recovered(), 65520);
    }

    private static void everySecretComesBack() {
        int[] secrets = {1234, 9999, 0};
        for (int user = 0; user < 3; user++) {
            for (int needed = 1; needed <= 8; needed++) {
                Vaultgarden x = garden();
                x.split(user, 8, needed);
                for (int i = 0; i < needed; i++) {
                    int place = 8 - i;
                    x.collect(place, x.share(user, place));
                }
                check.due("recovered by " + needed, x.recovered(), secrets[user]);
                x.drop();
                for (int place = 1; place < needed; place++) {
                    x.collect(place, x.share(user, place));
                }
                if (needed > 1) {
                    check.due("recovered by one less", x.recovered() == secrets[user], false);
                }
            }
        }
    }
}
