import java.util.NoSuchElementException;

/** Promises 44 to 48. */
public final class AwayTest {
    private static final Class<NoSuchElementException> NONE = NoSuchElementException.class;
    private static final Class<IllegalArgumentException> BAD = IllegalArgumentException.class;
    private static final Class<IllegalStateException> STATE = IllegalStateException.class;
    private static final Class<IndexOutOfBoundsException> PLACE = IndexOutOfBoundsException.class;
    private static final Check check = new Check("AwayTest");

    public static void main(String[] args) {
        goAway();
        draft();
        orderOfDrafts();
        comeBack();
        whyConflicts();
        quotaAndLog();
        check.end();
    }

    /** Group 0 with the owner 0 and the member 1, group 1 with the owner 2; the files 0 and 1, and 2. */
    private static Vaultgarden garden() {
        Vaultgarden x = new Vaultgarden();
        for (int i = 0; i < 4; i++) {
            x.addUser(i);
        }
        x.addGroup(0, 4);
        x.addGroup(2, 4);
        x.join(0, 1);
        x.addFile(0, 0);
        x.addFile(0, 0);
        x.addFile(1, 2);
        return x;
    }

    private static void goAway() {
        Vaultgarden x = garden();
        check.refused("goAway(4)", NONE, () -> x.goAway(4));
        check.refused("goAway(-1)", NONE, () -> x.goAway(-1));
        check.refused("comeBack(4)", NONE, () -> x.comeBack(4));
        check.refused("comeBack(1), here", STATE, () -> x.comeBack(1));
        check.due("goAway(1)", x.goAway(1), 1);
        check.refused("goAway(1) again", STATE, () -> x.goAway(1));
        check.due("goAway(3)", x.goAway(3), 2);
        check.due("comeBack(1), no drafts", x.comeBack(1), 0);
        check.due("conflicts()", x.conflicts(), 0);
        check.refused("comeBack(1) again", STATE, () -> x.comeBack(1));
        check.due("goAway(1) once more", x.goAway(1), 2);
    }

    private static void draft() {
        Vaultgarden x = garden();
        check.refused("draft(1, 0, 0, 1), here", STATE, () -> x.draft(1, 0, 0, 1));
        check.refused("draft(1, 0, 8, 1), here", BAD, () -> x.draft(1, 0, 8, 1));
        x.goAway(1);
        check.refused("draft(4, 0, 9, 1)", NONE, () -> x.draft(4, 0, 9, 1));
        check.refused("draft(1, 3, 9, 1)", NONE, () -> x.draft(1, 3, 9, 1));
        check.refused("draft(1, 0, 8, 1)", BAD, () -> x.draft(1, 0, 8, 1));
        check.refused("draft(1, 0, -1, 1)", BAD, () -> x.draft(1, 0, -1, 1));
        check.due("draft(1, 2, 0, 1), in another group", x.draft(1, 2, 0, 1), 1);
        for (int part = 0; part < 8; part++) {
            check.due("draft(1, 0, " + part + ")", x.draft(1, 0, part, part), part + 2);
        }
        check.due("draft(1, 1, 0), the tenth", x.draft(1, 1, 0, 9), 10);
        check.refused("draft(1, 1, 1), the eleventh", STATE, () -> x.draft(1, 1, 1, 9));
        check.due("draft(1, 0, 3), in place of one", x.draft(1, 0, 3, 99), 10);
        check.due("drafts are no writes", x.writes(0, 0), 0);
        check.due("another user has none", x.goAway(0), 2);
        check.due("draft(0, 1, 1, 1)", x.draft(0, 1, 1, 1), 1);
        check.due("comeBack(1): 4 parts are the quota", x.comeBack(1), 4);
        check.due("conflicts()", x.conflicts(), 6);
        int[] places = {16, 5, 6, 7, 8, 3};
        for (int i = 0; i < places.length; i++) {
            check.due("conflictAt(" + i + ")", x.conflictAt(i), places[i]);
        }
        check.refused("conflictAt(6)", PLACE, () -> x.conflictAt(6));
        check.refused("conflictAt(-1)", PLACE, () -> x.conflictAt(-1));
        check.due("read(0, 0, 4)", x.read(0, 0, 4), 4);
        check.due("goAway(1)", x.goAway(1), 2);
        check.due("the drafts are gone", x.draft(1, 0, 0, 1), 1);
    }

    /** User 3 is in no group, so that all drafts become conflicts, which tell their order. */
    private static void orderOfDrafts() {
        Vaultgarden x = garden();
        x.goAway(3);
        for (int i = 0; i < 10; i++) {
            x.draft(3, i / 8, i % 8, i);
        }
        int[] again = {0, 9, 9, 5, 1};
        for (int place : again) {
            check.due("draft again for " + place, x.draft(3, place / 8, place % 8, 7), 10);
        }
        check.due("comeBack(3)", x.comeBack(3), 0);
        check.due("conflicts()", x.conflicts(), 10);
        int[] places = {2, 3, 4, 6, 7, 8, 0, 9, 5, 1};
        for (int i = 0; i < places.length; i++) {
            check.due("conflictAt(" + i + ")", x.conflictAt(i), places[i]);
        }
        Vaultgarden y = garden();
        y.write(0, 0, 1, 1);
        y.write(0, 0, 1, 1);
        y.goAway(1);
        y.draft(1, 0, 0, 10);
        y.draft(1, 0, 1, 11);
        y.draft(1, 0, 2, 12);
        y.draft(1, 0, 0, 13);
        check.due("comeBack(1): each draft keeps its own number and value", y.comeBack(1), 3);
        check.due("read(0, 0, 0)", y.read(0, 0, 0), 13);
        check.due("read(0, 0, 1)", y.read(0, 0, 1), 11);
        check.due("read(0, 0, 2)", y.read(0, 0, 2), 12);
    }

    private static void comeBack() {
        Vaultgarden x = garden();
        x.write(0, 0, 0, 1);
        x.goAway(1);
        x.draft(1, 0, 0, 5);
        x.draft(1, 0, 1, 6);
        x.draft(1, 1, 7, 7);
        x.write(0, 0, 1, 2);
        x.write(0, 1, 7, 3);
        check.due("draft(1, 1, 7, 8), made anew", x.draft(1, 1, 7, 8), 3);
        x.leave(0, 1, false);
        x.join(0, 1);
        int leaves = x.leaves();
        check.due("comeBack(1)", x.comeBack(1), 2);
        check.due("conflicts()", x.conflicts(), 1);
        check.due("conflictAt(0)", x.conflictAt(0), 1);
        check.due("read(0, 0, 0)", x.read(0, 0, 0), 5);
        check.due("writes(0, 0)", x.writes(0, 0), 2);
        check.due("the key is turned ahead", x.version(0, 0), 1);
        check.due("read(0, 0, 1)", x.read(0, 0, 1), 2);
        check.due("read(0, 1, 7)", x.read(0, 1, 7), 8);
        check.due("leaves()", x.leaves(), leaves + 2);
        check.due("the first leaf", x.leaf(leaves), Model.mix(0, x.cipher(0, 0)));
        check.due("the second leaf", x.leaf(leaves + 1), Model.mix(15, x.cipher(1, 7)));
        check.due("write, back", x.write(1, 0, 0, 1), 1);
        check.due("isSound()", x.isSound(), true);
        x.goAway(0);
        check.due("conflicts(), as they were", x.conflicts(), 1);
        x.comeBack(0);
        check.due("conflicts() of who came back last", x.conflicts(), 0);
        check.refused("conflictAt(0)", PLACE, () -> x.conflictAt(0));
    }

    private static void whyConflicts() {
        Vaultgarden x = garden();
        x.write(0, 0, 0, 1);
        x.write(0, 1, 0, 1);
        x.goAway(1);
        x.draft(1, 0, 0, 2);
        x.draft(1, 1, 0, 2);
        x.spoil(0, 0, 1);
        x.throwAway(0, 1);
        check.due("comeBack(1), spoiled and thrown away", x.comeBack(1), 0);
        check.due("conflicts()", x.conflicts(), 2);
        x.spoil(0, 0, 1);
        x.goAway(1);
        x.draft(1, 0, 0, 2);
        x.leave(0, 1, true);
        check.due("comeBack(1), no member", x.comeBack(1), 0);
        check.due("conflicts(), no member", x.conflicts(), 1);
        x.join(0, 1);
        x.goAway(1);
        x.draft(1, 0, 0, 3);
        x.join(0, 3);
        x.leave(0, 3, true);
        check.due("comeBack(1), written anew is no write", x.comeBack(1), 1);
        check.due("read(0, 0, 0)", x.read(0, 0, 0), 3);
        x.goAway(1);
        x.draft(1, 0, 0, 4);
        x.write(0, 0, 0, 3);
        check.due("comeBack(1), the same value written", x.comeBack(1), 0);
        check.due("conflictAt(0)", x.conflictAt(0), 0);
    }

    private static void quotaAndLog() {
        Vaultgarden x = garden();
        for (int i = 1; i < 298; i++) {
            x.write(0, 0, 0, i);
        }
        x.goAway(1);
        x.draft(1, 0, 1, 1);
        x.draft(1, 0, 0, 2);
        x.draft(1, 0, 2, 3);
        x.draft(1, 1, 2, 4);
        check.due("comeBack(1), room for two leaves", x.comeBack(1), 2);
        check.due("conflicts()", x.conflicts(), 2);
        check.due("conflictAt(1)", x.conflictAt(1), 10);
        check.due("leaves()", x.leaves(), 300);
        check.due("read(0, 0, 0)", x.read(0, 0, 0), 2);
    }
}
