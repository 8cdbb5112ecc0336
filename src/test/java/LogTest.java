import java.util.ArrayList;
import java.util.List;

/** Promises 27 to 34. */
public final class LogTest {
    private static final Class<IllegalArgumentException> BAD = IllegalArgumentException.class;
    private static final Class<IndexOutOfBoundsException> PLACE = IndexOutOfBoundsException.class;
    private static final Check check = new Check("LogTest");

    public static void main(String[] args) {
        emptyLog();
        firstRun();
        fullLog();
        forget();
        check.end();
    }

    private static Vaultgarden garden(int leaves) {
        Vaultgarden x = new Vaultgarden();
        x.addUser(1);
        x.addGroup(0, 9);
        x.addFile(0, 0);
        for (int i = 0; i < leaves; i++) {
            x.write(0, 0, i % 3, i);
        }
        return x;
    }

    private static void emptyLog() {
        Vaultgarden x = garden(0);
        check.due("leaves()", x.leaves(), 0);
        check.due("root(0)", x.root(0), 0);
        check.refused("leaf(0)", PLACE, () -> x.leaf(0));
        check.refused("root(1)", BAD, () -> x.root(1));
        check.refused("root(-1)", BAD, () -> x.root(-1));
        check.refused("proofLength(0, 0)", PLACE, () -> x.proofLength(0, 0));
        check.refused("proofAt(0, 0, 0)", PLACE, () -> x.proofAt(0, 0, 0));
        check.refused("prefixLength(0, 0)", BAD, () -> x.prefixLength(0, 0));
        check.refused("prefixAt(0, 0, 0)", BAD, () -> x.prefixAt(0, 0, 0));
        check.due("forget(0)", x.forget(0), 0);
    }

    /** The numbers are those of the first run under ../shared/tests. */
    private static void firstRun() {
        Vaultgarden x = new Vaultgarden();
        for (int i = 0; i < 4; i++) {
            x.addUser(i);
        }
        x.addGroup(0, 12);
        x.join(0, 1);
        x.join(0, 2);
        x.addFile(0, 1);
        x.write(1, 0, 0, 77);
        x.write(1, 0, 3, -5);
        x.leave(0, 2, false);
        x.write(1, 0, 0, 78);
        x.join(0, 3);
        check.due("leaves()", x.leaves(), 7);
        check.due("leaf(0)", x.leaf(0), -1653717895);
        check.due("root(1)", x.root(1), 1100753065);
        check.due("root(2)", x.root(2), -1732180311);
        check.due("root(3)", x.root(3), 1813349857);
        check.due("root(7)", x.root(7), 1109432193);
        check.due("proofLength(7, 3)", x.proofLength(7, 3), 3);
        check.due("proofAt(7, 3, 0)", x.proofAt(7, 3, 0), 991226324);
        check.due("proofAt(7, 3, 1)", x.proofAt(7, 3, 1), -1732180311);
        check.due("prefixLength(3, 7)", x.prefixLength(3, 7), 4);
        check.due("prefixAt(3, 7, 0)", x.prefixAt(3, 7, 0), 991226324);
        check.due("prefixAt(3, 7, 1)", x.prefixAt(3, 7, 1), -549276022);
        check.due("prefixAt(3, 7, 2)", x.prefixAt(3, 7, 2), -1732180311);
        check.due("prefixLength(4, 7)", x.prefixLength(4, 7), 1);
        check.due("prefixLength(7, 7)", x.prefixLength(7, 7), 0);
        check.refused("leaf(7)", PLACE, () -> x.leaf(7));
        check.refused("leaf(-1)", PLACE, () -> x.leaf(-1));
        check.refused("root(8)", BAD, () -> x.root(8));
        check.refused("proofLength(8, 8)", BAD, () -> x.proofLength(8, 8));
        check.refused("proofLength(-1, -1)", BAD, () -> x.proofLength(-1, -1));
        check.refused("proofLength(7, 7)", PLACE, () -> x.proofLength(7, 7));
        check.refused("proofLength(3, 5)", PLACE, () -> x.proofLength(3, 5));
        check.refused("proofLength(7, -1)", PLACE, () -> x.proofLength(7, -1));
        check.refused("proofAt(8, 0, 0)", BAD, () -> x.proofAt(8, 0, 0));
        check.refused("proofAt(7, 7, 0)", PLACE, () -> x.proofAt(7, 7, 0));
        check.refused("proofAt(7, 3, 3)", PLACE, () -> x.proofAt(7, 3, 3));
        check.refused("proofAt(7, 3, -1)", PLACE, () -> x.proofAt(7, 3, -1));
        check.due("proofLength(1, 0)", x.proofLength(1, 0), 0);
        check.refused("proofAt(1, 0, 0)", PLACE, () -> x.proofAt(1, 0, 0));
        check.refused("prefixLength(1, 8)", BAD, () -> x.prefixLength(1, 8));
        check.refused("prefixLength(0, 7)", BAD, () -> x.prefixLength(0, 7));
        check.refused("prefixLength(-1, 7)", BAD, () -> x.prefixLength(-1, 7));
        check.refused("prefixLength(6, 5)", BAD, () -> x.prefixLength(6, 5));
        check.refused("prefixAt(1, 8, 0)", BAD, () -> x.prefixAt(1, 8, 0));
        check.refused("prefixAt(0, 7, 9)", BAD, () -> x.prefixAt(0, 7, 9));
        check.refused("prefixAt(3, 7, 4)", PLACE, () -> x.prefixAt(3, 7, 4));
        check.refused("prefixAt(3, 7, -1)", PLACE, () -> x.prefixAt(3, 7, -1));
        check.refused("prefixAt(7, 7, 0)", PLACE, () -> x.prefixAt(7, 7, 0));
    }

    /** Who has only a proof must be able to find the root from it, for each number of leaves. */
    private static void fullLog() {
        Vaultgarden x = garden(300);
        check.due("leaves()", x.leaves(), 300);
        for (int n = 1; n <= 300; n++) {
            for (int index = 0; index < n; index += 1 + n / 9) {
                check.due("root from the proof of " + index + " in " + n, provedRoot(x, n, index), x.root(n));
            }
            for (int m = 1; m <= n; m += 1 + n / 9) {
                List<Integer> roots = provedRoots(x, m, n);
                check.due("first root, from " + m + " in " + n, roots.get(0), x.root(m));
                check.due("second root, from " + m + " in " + n, roots.get(1), x.root(n));
            }
        }
        int[] lengths = {1, 0, 2, 1, 256, 8, 300, 9};
        for (int i = 0; i < lengths.length; i += 2) {
            check.due("proofLength(" + lengths[i] + ", 0)", x.proofLength(lengths[i], 0), lengths[i + 1]);
        }
        check.due("proofLength(257, 256)", x.proofLength(257, 256), 1);
    }

    /** As RFC 6962 and RFC 9162 check the path of a leaf. */
    private static int provedRoot(Vaultgarden x, int n, int index) {
        int node = index;
        int last = n - 1;
        int root = Model.mix(8, x.leaf(index));
        for (int place = 0; place < x.proofLength(n, index); place++) {
            int other = x.proofAt(n, index, place);
            if (node % 2 == 1 || node == last) {
                root = Model.mix(Model.mix(9, other), root);
                while (node % 2 == 0 && node != 0) {
                    node /= 2;
                    last /= 2;
                }
            } else {
                root = Model.mix(Model.mix(9, root), other);
            }
            node /= 2;
            last /= 2;
        }
        return last == 0 ? root : ~x.root(n);
    }

    /** As RFC 9162 checks that a tree goes on another one: both roots, as they are found from the row. */
    private static List<Integer> provedRoots(Vaultgarden x, int m, int n) {
        List<Integer> row = new ArrayList<>();
        for (int place = 0; place < x.prefixLength(m, n); place++) {
            row.add(x.prefixAt(m, n, place));
        }
        if (m == n) {
            return row.isEmpty() ? List.of(x.root(m), x.root(m)) : List.of(0, 0);
        }
        if (Integer.bitCount(m) == 1) {
            row.add(0, x.root(m));
        }
        int node = m - 1;
        int last = n - 1;
        while (node % 2 == 1) {
            node /= 2;
            last /= 2;
        }
        int first = row.get(0);
        int second = row.get(0);
        for (int other : row.subList(1, row.size())) {
            if (node % 2 == 1 || node == last) {
                first = Model.mix(Model.mix(9, other), first);
                second = Model.mix(Model.mix(9, other), second);
                while (node % 2 == 0 && node != 0) {
                    node /= 2;
                    last /= 2;
                }
            } else {
                second = Model.mix(Model.mix(9, second), other);
            }
            node /= 2;
            last /= 2;
        }
        return List.of(first, last == 0 ? second : ~second);
    }

    private static void forget() {
        Vaultgarden x = garden(10);
        int root = x.root(6);
        check.refused("forget(11)", BAD, () -> x.forget(11));
        check.refused("forget(-1)", BAD, () -> x.forget(-1));
        check.due("forget(10)", x.forget(10), 0);
        check.due("forget(6)", x.forget(6), 4);
        check.due("leaves()", x.leaves(), 6);
        check.due("root(6)", x.root(6), root);
        check.refused("root(7)", BAD, () -> x.root(7));
        check.refused("leaf(6)", PLACE, () -> x.leaf(6));
        check.due("what was written stays", x.read(0, 0, 0), 9);
        x.write(0, 0, 0, 5);
        check.due("leaves(), one more", x.leaves(), 7);
        check.due("leaf(6)", x.leaf(6), Model.mix(0, x.cipher(0, 0)));
        check.due("forget(0)", x.forget(0), 7);
        check.due("root(0)", x.root(0), 0);
    }
}
