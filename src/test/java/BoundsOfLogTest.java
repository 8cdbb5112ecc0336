import java.util.ArrayDeque;
import java.util.ArrayList;
import java.util.List;

/** A test for each sentence of promises 27 to 34 and of "The log" that names a boundary. */
public final class BoundsOfLogTest {
    private static final Class<IllegalArgumentException> BAD = IllegalArgumentException.class;
    private static final Class<IllegalStateException> STATE = IllegalStateException.class;
    private static final Class<IndexOutOfBoundsException> PLACE = IndexOutOfBoundsException.class;
    private static final int LOWEST = Integer.MIN_VALUE;
    private static final int HIGHEST = Integer.MAX_VALUE;
    private static final Check check = new Check("BoundsOfLogTest");

    public static void main(String[] args) {
        whatIsALeaf();
        atMost300Leaves();
        noSuchLeaf();
        rootOfNotSoMany();
        rootOfNoneOneAndMore();
        proofOfNotSoMany();
        proofOfLeafNotAmongThem();
        noSuchPlaceInProof();
        reasonsOfProof();
        rowsOfProofs();
        prefixOfNotSoMany();
        prefixOfNoneOrMore();
        noSuchPlaceInPrefix();
        reasonsOfPrefix();
        rowsOfPrefixes();
        forgetNotSoMany();
        forgetNoneAndAll();
        check.end();
    }

    /** A scene with so many leaves, of which none is like another. */
    private static Scene log(int leaves) {
        Scene s = new Scene(check).with(x -> x.addUser(1)).with(x -> x.addGroup(0, 9)).with(x -> x.addFile(0, 0));
        return s.withLeaves(leaves);
    }

    /** "for each write ...; for joining ...; for leaving ...; for throwing a file away ..." and for nothing else */
    private static void whatIsALeaf() {
        Scene s = new Scene(check).with(x -> x.addUser(1)).with(x -> x.addUser(2));
        for (int i = 0; i < 5; i++) {
            s.with(x -> x.addGroup(0, 9));
        }
        for (int i = 0; i < 20; i++) {
            s.with(x -> x.addFile(4, 0));
        }
        s.due("leaves(), nothing but users, groups and files", 0, x -> x.leaves());
        s.with(x -> x.join(4, 1)).with(x -> x.write(1, 19, 7, LOWEST)).with(x -> x.goAway(1));
        s.with(x -> x.draft(1, 0, 0, HIGHEST)).with(x -> x.draft(1, 19, 7, HIGHEST)).with(x -> x.tell(0, 0, 5));
        s.with(x -> x.ask(0, 4, 5)).with(x -> x.write(0, 19, 7, -1)).with(x -> x.comeBack(1));
        s.with(x -> x.leave(4, 1, true)).with(x -> x.throwAway(0, 19)).with(x -> x.purge());
        s.with(x -> x.show(0, 0)).with(x -> x.meet(0, 1)).with(x -> x.split(0, 1, 1)).with(x -> x.spoil(0, 0, 0));
        int key = Model.keyOfPart(19, 0, 7);
        int[] leaves = {Model.mix(104, 1), Model.mix(159, Model.seal(LOWEST, key)), Model.mix(159, Model.seal(-1, key)),
            Model.mix(0, Model.seal(HIGHEST, Model.keyOfPart(0, 0, 0))), Model.mix(204, 1), Model.mix(300, 19)};
        s.due("leaves()", leaves.length, x -> x.leaves());
        for (int i = 0; i < leaves.length; i++) {
            int index = i;
            s.due("leaf(" + index + ")", leaves[index], x -> x.leaf(index));
        }
    }

    /** "At most 300 leaves are kept." */
    private static void atMost300Leaves() {
        Scene s = log(0);
        s.due("leaves(), none", 0, x -> x.leaves());
        s.with(x -> x.write(0, 0, 0, 1));
        s.due("leaves(), one", 1, x -> x.leaves());
        s.withLeaves(300);
        s.due("leaves(), 300", 300, x -> x.leaves());
        s.refused("write, the 301st", STATE, x -> x.write(0, 0, 0, 5));
        s.due("leaves(), still 300", 300, x -> x.leaves());
        s.due("forget(300)", 0, x -> x.forget(300));
        s.refused("write, the 301st, none forgotten", STATE, x -> x.write(0, 0, 0, 5));
        s.due("forget(299)", 1, x -> x.forget(299));
        s.with(x -> x.write(0, 0, 0, 5));
        s.due("leaf(299)", Model.mix(0, Model.seal(5, Model.keyOfPart(0, 0, 0))), x -> x.leaf(299));
        s.refused("write, the 301st again", STATE, x -> x.write(0, 0, 0, 6));
    }

    /** "Throws IndexOutOfBoundsException if there is no such leaf" */
    private static void noSuchLeaf() {
        Scene s = log(0);
        s.refused("leaf(0), none", PLACE, x -> x.leaf(0));
        s.withLeaves(5);
        for (int index : new int[] {-1, 5, 299, 300, LOWEST, HIGHEST}) {
            s.refused("leaf(" + index + ")", PLACE, x -> x.leaf(index));
        }
        for (int index : new int[] {0, 4}) {
            int leaf = Model.mix(0, Model.seal(index, Model.keyOfPart(0, 0, 0)));
            s.due("leaf(" + index + ")", leaf, x -> x.leaf(index));
        }
        s.with(x -> x.forget(4));
        s.refused("leaf(4), forgotten", PLACE, x -> x.leaf(4));
        s.withLeaves(300);
        s.due("leaf(299)", Model.mix(0, Model.seal(299, Model.keyOfPart(0, 0, 0))), x -> x.leaf(299));
        s.refused("leaf(300), 300 leaves", PLACE, x -> x.leaf(300));
    }

    // ---- root ----

    /** "Throws IllegalArgumentException if there are not so many" */
    private static void rootOfNotSoMany() {
        Scene s = log(5);
        for (int leaves : new int[] {6, 300, 301, -1, LOWEST, HIGHEST}) {
            s.refused("root(" + leaves + ")", BAD, x -> x.root(leaves));
        }
        s.with(x -> x.forget(4));
        s.refused("root(5), forgotten", BAD, x -> x.root(5));
        Scene full = log(300);
        full.refused("root(301), 300 leaves", BAD, x -> x.root(301));
    }

    /** "The root of no leaves is 0; that of one leaf is the mix of 8 and the leaf; that of more is ..." */
    private static void rootOfNoneOneAndMore() {
        List<Integer> leaves = leavesOf(log(300));
        Scene s = log(300);
        s.due("root(0)", 0, x -> x.root(0));
        s.due("root(1)", Model.mix(8, leaves.get(0)), x -> x.root(1));
        for (int n : new int[] {2, 3, 4, 5, 7, 8, 9, 255, 256, 257, 299, 300}) {
            s.due("root(" + n + ")", rootOf(leaves, 0, n), x -> x.root(n));
        }
        s.with(x -> x.forget(0));
        s.due("root(0), all forgotten", 0, x -> x.root(0));
        for (int from : new int[] {2, 150}) {
            Vaultgarden garden = fullGarden();
            for (int n = from; n < from + 150; n++) {
                check.due("root(" + n + ")", garden.root(n), rootOf(leaves, 0, n));
            }
        }
    }

    private static List<Integer> leavesOf(Scene s) {
        List<Integer> leaves = new ArrayList<>();
        int count = s.number(x -> x.leaves());
        for (int i = 0; i < count; i++) {
            leaves.add(Model.mix(0, Model.seal(i, Model.keyOfPart(0, 0, 0))));
        }
        return leaves;
    }

    private static Vaultgarden fullGarden() {
        Vaultgarden x = new Vaultgarden();
        x.addUser(1);
        x.addGroup(0, 9);
        x.addFile(0, 0);
        for (int i = 0; i < 300; i++) {
            x.write(0, 0, 0, i);
        }
        return x;
    }

    /**
     * From the leaves upwards: trees of as many leaves become one of twice as many, and what is left in the end is put
     * together from the back.
     */
    private static int rootOf(List<Integer> leaves, int from, int to) {
        ArrayDeque<Integer> roots = new ArrayDeque<>();
        for (int i = from; i < to; i++) {
            roots.push(Model.mix(8, leaves.get(i)));
            for (int twins = i - from + 1; twins % 2 == 0; twins /= 2) {
                int second = roots.pop();
                roots.push(Model.mix(Model.mix(9, roots.pop()), second));
            }
        }
        while (roots.size() > 1) {
            int second = roots.pop();
            roots.push(Model.mix(Model.mix(9, roots.pop()), second));
        }
        return roots.pop();
    }

    // ---- proofLength, proofAt ----

    /** "Throws IllegalArgumentException if there are not so many" */
    private static void proofOfNotSoMany() {
        Scene s = log(5);
        for (int leaves : new int[] {6, 301, -1, LOWEST, HIGHEST}) {
            s.refused("proofLength(" + leaves + ", 0)", BAD, x -> x.proofLength(leaves, 0));
            s.refused("proofAt(" + leaves + ", 0, 0)", BAD, x -> x.proofAt(leaves, 0, 0));
        }
        s.due("proofLength(5, 0)", 3, x -> x.proofLength(5, 0));
        s.with(x -> x.forget(4));
        s.refused("proofLength(5, 0), forgotten", BAD, x -> x.proofLength(5, 0));
        s.due("proofLength(4, 0)", 2, x -> x.proofLength(4, 0));
    }

    /** "Throws IndexOutOfBoundsException if the leaf is not among them" */
    private static void proofOfLeafNotAmongThem() {
        Scene s = log(7);
        for (int index : new int[] {-1, 5, 6, 7, LOWEST, HIGHEST}) {
            s.refused("proofLength(5, " + index + ")", PLACE, x -> x.proofLength(5, index));
            s.refused("proofAt(5, " + index + ", 0)", PLACE, x -> x.proofAt(5, index, 0));
        }
        s.refused("proofLength(0, 0), among none", PLACE, x -> x.proofLength(0, 0));
        s.refused("proofAt(0, 0, 0), among none", PLACE, x -> x.proofAt(0, 0, 0));
        s.refused("proofLength(0, -1), among none", PLACE, x -> x.proofLength(0, -1));
        s.due("proofLength(5, 0), the first", 3, x -> x.proofLength(5, 0));
        s.due("proofLength(5, 4), the last", 1, x -> x.proofLength(5, 4));
        s.due("proofLength(1, 0), the only one", 0, x -> x.proofLength(1, 0));
        s.refused("proofLength(1, 1)", PLACE, x -> x.proofLength(1, 1));
    }

    /** "or there is no such place" */
    private static void noSuchPlaceInProof() {
        Scene s = log(5);
        for (int place : new int[] {-1, 3, 4, 13, LOWEST, HIGHEST}) {
            s.refused("proofAt(5, 0, " + place + ")", PLACE, x -> x.proofAt(5, 0, place));
        }
        s.refused("proofAt(5, 4, 1), one number", PLACE, x -> x.proofAt(5, 4, 1));
        for (int place : new int[] {0, -1}) {
            s.refused("proofAt(1, 0, " + place + "), no numbers", PLACE, x -> x.proofAt(1, 0, place));
        }
    }

    private static void reasonsOfProof() {
        Scene s = log(5);
        s.refused("not so many, not among them", BAD, x -> x.proofLength(6, 6));
        s.refused("not so many, below all", BAD, x -> x.proofLength(6, -1));
        s.refused("less than none, not among them", BAD, x -> x.proofLength(-1, -1));
        s.refused("not so many, no such place", BAD, x -> x.proofAt(6, 0, 99));
        s.refused("not so many, not among them, no such place", BAD, x -> x.proofAt(6, 6, -1));
        s.refused("not among them, no such place", PLACE, x -> x.proofAt(5, 5, 99));
    }

    /** "the row of the roots of those others, or first ones, in which it is not, from the smallest to the greatest" */
    private static void rowsOfProofs() {
        List<Integer> leaves = leavesOf(log(300));
        int[][] rows = {{1, 0}, {2, 0, 1, 2}, {2, 1, 0, 1}, {3, 0, 1, 2, 2, 3}, {3, 2, 0, 2}, {4, 0, 1, 2, 2, 4},
            {4, 3, 2, 3, 0, 2}, {5, 0, 1, 2, 2, 4, 4, 5}, {5, 4, 0, 4}, {7, 5, 4, 5, 6, 7, 0, 4},
            {8, 7, 6, 7, 4, 6, 0, 4}, {9, 8, 0, 8}, {256, 255, 254, 255, 252, 254, 248, 252, 240, 248, 224, 240, 192, 224,
                128, 192, 0, 128}, {257, 256, 0, 256},
            {300, 299, 298, 299, 296, 298, 288, 296, 256, 288, 0, 256},
            {300, 0, 1, 2, 2, 4, 4, 8, 8, 16, 16, 32, 32, 64, 64, 128, 128, 256, 256, 300}};
        Vaultgarden x = fullGarden();
        for (int[] row : rows) {
            String told = "(" + row[0] + ", " + row[1];
            check.due("proofLength" + told + ")", x.proofLength(row[0], row[1]), row.length / 2 - 1);
            for (int i = 2; i < row.length; i += 2) {
                int want = rootOf(leaves, row[i], row[i + 1]);
                check.due("proofAt" + told + ", " + (i / 2 - 1) + ")", x.proofAt(row[0], row[1], i / 2 - 1), want);
            }
        }
    }

    // ---- prefixLength, prefixAt ----

    /** "Throws IllegalArgumentException if there are not so many" */
    private static void prefixOfNotSoMany() {
        Scene s = log(5);
        for (int leaves : new int[] {6, 301, HIGHEST}) {
            s.refused("prefixLength(1, " + leaves + ")", BAD, x -> x.prefixLength(1, leaves));
            s.refused("prefixAt(1, " + leaves + ", 0)", BAD, x -> x.prefixAt(1, leaves, 0));
            s.refused("prefixLength of all " + leaves, BAD, x -> x.prefixLength(leaves, leaves));
        }
        s.due("prefixLength(1, 5)", 3, x -> x.prefixLength(1, 5));
        s.with(x -> x.forget(4));
        s.refused("prefixLength(1, 5), forgotten", BAD, x -> x.prefixLength(1, 5));
    }

    /** "or the fewer ones are none or more" */
    private static void prefixOfNoneOrMore() {
        Scene s = log(5);
        for (int first : new int[] {0, -1, 5, 6, LOWEST, HIGHEST}) {
            s.refused("prefixLength(" + first + ", 4)", BAD, x -> x.prefixLength(first, 4));
            s.refused("prefixAt(" + first + ", 4, 0)", BAD, x -> x.prefixAt(first, 4, 0));
        }
        for (int leaves : new int[] {0, -1, LOWEST}) {
            s.refused("prefixLength(0, " + leaves + ")", BAD, x -> x.prefixLength(0, leaves));
            s.refused("prefixLength(1, " + leaves + ")", BAD, x -> x.prefixLength(1, leaves));
            s.refused("prefixLength of all " + leaves, BAD, x -> x.prefixLength(leaves, leaves));
        }
        s.due("prefixLength(4, 4)", 0, x -> x.prefixLength(4, 4));
        s.due("prefixLength(1, 4)", 2, x -> x.prefixLength(1, 4));
        s.due("prefixLength(1, 1)", 0, x -> x.prefixLength(1, 1));
    }

    /** "Throws IndexOutOfBoundsException if there is no such place" */
    private static void noSuchPlaceInPrefix() {
        Scene s = log(5);
        for (int place : new int[] {-1, 4, 5, 13, LOWEST, HIGHEST}) {
            s.refused("prefixAt(3, 5, " + place + ")", PLACE, x -> x.prefixAt(3, 5, place));
        }
        s.with(x -> x.prefixAt(3, 5, 0)).with(x -> x.prefixAt(3, 5, 3));
        s.refused("prefixAt(4, 5, 1), one number", PLACE, x -> x.prefixAt(4, 5, 1));
        for (int place : new int[] {0, -1}) {
            s.refused("prefixAt(5, 5, " + place + "), no numbers", PLACE, x -> x.prefixAt(5, 5, place));
            s.refused("prefixAt(1, 1, " + place + "), no numbers", PLACE, x -> x.prefixAt(1, 1, place));
        }
    }

    private static void reasonsOfPrefix() {
        Scene s = log(5);
        s.refused("not so many, no such place", BAD, x -> x.prefixAt(3, 6, 99));
        s.refused("not so many, no such place below", BAD, x -> x.prefixAt(3, 6, -1));
        s.refused("none, no such place", BAD, x -> x.prefixAt(0, 5, 99));
        s.refused("more, no such place", BAD, x -> x.prefixAt(5, 4, -1));
    }

    /** "for m the same as n, nothing if it is whole, otherwise the root of these; for others, ..." */
    private static void rowsOfPrefixes() {
        List<Integer> leaves = leavesOf(log(300));
        int[][] rows = {{1, 1}, {1, 2, 1, 2}, {2, 2}, {1, 3, 1, 2, 2, 3}, {2, 3, 2, 3}, {3, 3},
            {1, 4, 1, 2, 2, 4}, {2, 4, 2, 4}, {3, 4, 2, 3, 3, 4, 0, 2}, {4, 4}, {3, 5, 2, 3, 3, 4, 0, 2, 4, 5}, {4, 5, 4, 5},
            {5, 6, 4, 5, 5, 6, 0, 4}, {6, 7, 4, 6, 6, 7, 0, 4}, {3, 7, 2, 3, 3, 4, 0, 2, 4, 7},
            {7, 8, 6, 7, 7, 8, 4, 6, 0, 4}, {8, 9, 8, 9}, {256, 257, 256, 257}, {256, 300, 256, 300},
            {257, 300, 256, 257, 257, 258, 258, 260, 260, 264, 264, 272, 272, 288, 288, 300, 0, 256},
            {299, 300, 298, 299, 299, 300, 296, 298, 288, 296, 256, 288, 0, 256}, {300, 300}};
        Vaultgarden x = fullGarden();
        for (int[] row : rows) {
            String told = "(" + row[0] + ", " + row[1];
            check.due("prefixLength" + told + ")", x.prefixLength(row[0], row[1]), row.length / 2 - 1);
            for (int i = 2; i < row.length; i += 2) {
                int want = rootOf(leaves, row[i], row[i + 1]);
                check.due("prefixAt" + told + ", " + (i / 2 - 1) + ")", x.prefixAt(row[0], row[1], i / 2 - 1), want);
            }
        }
    }

    // ---- forget ----

    /** "Throws IllegalArgumentException if there are not so many" */
    private static void forgetNotSoMany() {
        Scene s = log(5);
        for (int leaves : new int[] {6, 300, 301, -1, LOWEST, HIGHEST}) {
            s.refused("forget(" + leaves + ")", BAD, x -> x.forget(leaves));
        }
        s.with(x -> x.forget(3));
        s.refused("forget(4), forgotten", BAD, x -> x.forget(4));
        s.due("forget(3)", 0, x -> x.forget(3));
    }

    /** "leaves: how many stay"; "Returns how many are forgotten." */
    private static void forgetNoneAndAll() {
        Scene s = log(300);
        int root = s.number(x -> x.root(299));
        s.due("forget(300), none", 0, x -> x.forget(300));
        s.due("leaves()", 300, x -> x.leaves());
        s.due("forget(299), one", 1, x -> x.forget(299));
        s.due("root(299), as before", root, x -> x.root(299));
        s.due("forget(0), all", 299, x -> x.forget(0));
        s.due("leaves(), all forgotten", 0, x -> x.leaves());
        s.due("forget(0), there are none", 0, x -> x.forget(0));
        s.due("read(0, 0, 0), what was written stays", 299, x -> x.read(0, 0, 0));
        s.due("writes(0, 0)", 300, x -> x.writes(0, 0));
        s.with(x -> x.write(0, 0, 0, 5));
        s.due("leaf(0)", Model.mix(0, Model.seal(5, Model.keyOfPart(0, 0, 0))), x -> x.leaf(0));
    }
}
