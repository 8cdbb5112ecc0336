import java.util.NoSuchElementException;

/** Promises 23 to 26, 51 and 52. */
public final class WordsTest {
    private static final Class<NoSuchElementException> NONE = NoSuchElementException.class;
    private static final Class<IllegalArgumentException> BAD = IllegalArgumentException.class;
    private static final Class<IllegalStateException> STATE = IllegalStateException.class;
    private static final Class<UnsupportedOperationException> RIGHT = UnsupportedOperationException.class;
    private static final Class<IndexOutOfBoundsException> PLACE = IndexOutOfBoundsException.class;
    private static final Check check = new Check("WordsTest");

    public static void main(String[] args) {
        tell();
        ask();
        groupsApart();
        manyTokens();
        sameTokenInTwoGroups();
        means();
        check.end();
    }

    private static Vaultgarden garden() {
        Vaultgarden x = new Vaultgarden();
        for (int i = 0; i < 4; i++) {
            x.addUser(i);
        }
        x.addGroup(0, 12);
        x.addGroup(2, 2);
        x.join(0, 1);
        for (int i = 0; i < 3; i++) {
            x.addFile(0, 0);
        }
        x.addFile(1, 2);
        return x;
    }

    private static void tell() {
        Vaultgarden x = garden();
        check.refused("tell(4, 0, 100)", NONE, () -> x.tell(4, 0, 100));
        check.refused("tell(0, 4, 100)", NONE, () -> x.tell(0, 4, 100));
        check.refused("tell(2, 0, 100)", BAD, () -> x.tell(2, 0, 100));
        check.refused("tell(2, 0, -1)", BAD, () -> x.tell(2, 0, -1));
        check.refused("tell(2, 0, 0), no member", RIGHT, () -> x.tell(2, 0, 0));
        check.due("tell(0, 0, 0)", x.tell(0, 0, 0), 1);
        check.due("tell(1, 0, 0), kept once", x.tell(1, 0, 0), 1);
        check.due("tell(0, 1, 0), another file", x.tell(0, 1, 0), 2);
        check.due("tell(0, 0, 99)", x.tell(0, 0, 99), 3);
        check.due("tell(2, 3, 0), another group", x.tell(2, 3, 0), 4);
        x.leave(0, 1, true);
        check.due("tell(0, 0, 0), another epoch", x.tell(0, 0, 0), 5);
        x.goAway(0);
        check.due("tell while away", x.tell(0, 0, 1), 6);
        x.comeBack(0);
        x.write(0, 0, 0, 1);
        x.spoil(0, 0, 1);
        check.due("tell, spoiled", x.tell(0, 0, 2), 7);
        x.throwAway(0, 0);
        check.due("tell, thrown away", x.tell(0, 0, 3), 8);
        for (int word = 4; word < 56; word++) {
            x.tell(0, 1, word);
        }
        check.due("tell(0, 1, 4), 60 are kept, this among them", x.tell(0, 1, 4), 60);
        check.refused("tell(0, 1, 56), 60 are kept", STATE, () -> x.tell(0, 1, 56));
        check.refused("tell(0, 2, 4), 60 are kept, for another file", STATE, () -> x.tell(0, 2, 4));
        check.refused("tell(1, 1, 4), 60 are kept, no member", RIGHT, () -> x.tell(1, 1, 4));
        check.due("ask(0, 0, 56)", x.ask(0, 0, 56), 0);
        check.due("words tell the log nothing", x.leaves(), 4);
    }

    private static void ask() {
        Vaultgarden x = garden();
        x.tell(0, 2, 5);
        x.tell(0, 0, 5);
        check.refused("ask(4, 0, 100)", NONE, () -> x.ask(4, 0, 100));
        check.refused("ask(0, 2, 100)", NONE, () -> x.ask(0, 2, 100));
        check.refused("ask(3, 0, 100)", BAD, () -> x.ask(3, 0, 100));
        check.refused("ask(3, 0, -1)", BAD, () -> x.ask(3, 0, -1));
        check.refused("ask(3, 0, 5), no key", RIGHT, () -> x.ask(3, 0, 5));
        counts(x, 0, 0, 0);
        check.due("ask(0, 0, 5)", x.ask(0, 0, 5), 2);
        check.due("foundAt(0)", x.foundAt(0), 0);
        check.due("foundAt(1)", x.foundAt(1), 2);
        check.refused("foundAt(2)", PLACE, () -> x.foundAt(2));
        check.refused("foundAt(-1)", PLACE, () -> x.foundAt(-1));
        counts(x, 1, 0, 2);
        x.leave(0, 1, true);
        x.tell(0, 1, 5);
        check.due("ask(0, 0, 5), two epochs", x.ask(0, 0, 5), 3);
        counts(x, 2, 1, 5);
        check.due("ask(1, 0, 5), who left", x.ask(1, 0, 5), 2);
        counts(x, 2, 2, 7);
        check.refused("ask(3, 0, 5), no key", RIGHT, () -> x.ask(3, 0, 5));
        check.due("foundAt(1), as before", x.foundAt(1), 2);
        x.throwAway(0, 0);
        x.purge();
        check.due("ask(0, 0, 5), one thrown away", x.ask(0, 0, 5), 3);
        counts(x, 2, 4, 10);
        check.due("ask(1, 0, 6)", x.ask(1, 0, 6), 0);
        check.refused("foundAt(0)", PLACE, () -> x.foundAt(0));
        counts(x, 3, 4, 10);
        check.due("ask(0, 0, 6), one new and one repeated", x.ask(0, 0, 6), 0);
        counts(x, 4, 5, 10);
        x.join(0, 1);
        check.due("ask(1, 0, 5), joined again", x.ask(1, 0, 5), 3);
        check.refused("shown(x)", BAD, () -> x.shown('x'));
        check.refused("shown(N)", BAD, () -> x.shown('N'));
        check.refused("shown of no sign", BAD, () -> x.shown((char) 0));
    }

    private static void counts(Vaultgarden x, int fresh, int repeated, int files) {
        check.due("shown(n)", x.shown('n'), fresh);
        check.due("shown(r)", x.shown('r'), repeated);
        check.due("shown(f)", x.shown('f'), files);
    }

    private static void groupsApart() {
        Vaultgarden x = garden();
        x.tell(2, 3, 7);
        check.due("ask(0, 0, 7), told in another group", x.ask(0, 0, 7), 0);
        check.due("ask(2, 1, 7)", x.ask(2, 1, 7), 1);
        check.due("foundAt(0)", x.foundAt(0), 3);
        counts(x, 2, 0, 1);
    }

    /** As many tokens as can be shown: all calls that are left are leaving, joining again and asking. */
    private static void manyTokens() {
        Vaultgarden x = garden();
        x.tell(0, 1, 3);
        for (int i = 0; i < 100; i++) {
            x.leave(0, 1, false);
            x.join(0, 1);
        }
        x.forget(0);
        for (int i = 0; i < 96; i++) {
            x.leave(0, 1, false);
            x.join(0, 1);
        }
        for (int word = 0; word < 100; word++) {
            check.due("ask(1, 0, " + word + ")", x.ask(1, 0, word), word == 3 ? 1 : 0);
        }
        counts(x, 19700, 0, 1);
        x.ask(0, 0, 50);
        counts(x, 19700, 197, 1);
    }

    /** The one token that two groups share within 512 calls, found by trying all: it is new only once. */
    private static void sameTokenInTwoGroups() {
        Vaultgarden x = new Vaultgarden();
        x.addUser(0);
        x.addUser(1);
        for (int i = 0; i < 5; i++) {
            x.addGroup(0, 1);
        }
        for (int i = 0; i < 126; i++) {
            x.join(3, 1);
            x.leave(3, 1, false);
        }
        x.forget(0);
        for (int i = 0; i < 121; i++) {
            x.join(4, 1);
            x.leave(4, 1, false);
        }
        x.ask(0, 3, 75);
        counts(x, 127, 0, 0);
        x.ask(0, 4, 58);
        counts(x, 248, 1, 0);
    }

    private static void means() {
        Vaultgarden x = garden();
        check.refused("meanTold(), no questions", ArithmeticException.class, () -> x.meanTold());
        check.refused("meanToldBits(), no questions", ArithmeticException.class, () -> x.meanToldBits());
        x.ask(0, 0, 5);
        mean(x, 0, 1);
        x.tell(0, 0, 5);
        x.tell(0, 1, 5);
        x.tell(0, 2, 5);
        x.ask(0, 0, 5);
        mean(x, 3, 2);
        Vaultgarden y = garden();
        y.tell(0, 0, 5);
        y.tell(0, 1, 5);
        y.ask(0, 0, 5);
        mean(y, 2, 1);
        y.tell(0, 2, 5);
        y.ask(0, 0, 5);
        mean(y, 5, 2);
        for (int file = 4; file < 20; file++) {
            y.addFile(0, 0);
            y.tell(0, file, 5);
            y.ask(0, 0, 5);
        }
        check.due("foundAt(18), the last file", y.foundAt(18), 19);
        check.due("meanToldBits(), many files", y.meanToldBits(), Double.doubleToLongBits(y.meanTold()));
        x.ask(0, 0, 6);
        mean(x, 3, 3);
        x.ask(0, 0, 6);
        mean(x, 3, 4);
        for (int i = 5; i < 100; i++) {
            x.ask(0, 0, 6);
            mean(x, 3, i);
        }
        for (int i = 0; i < 150; i++) {
            x.ask(0, 0, 5);
            mean(x, 3 * i + 6, i + 100);
        }
    }

    private static void mean(Vaultgarden x, int files, int questions) {
        double want = (double) files / (double) questions;
        check.due("meanTold(), " + files + " of " + questions, x.meanTold(), want);
        check.due("meanToldBits(), " + files + " of " + questions, x.meanToldBits(), Double.doubleToLongBits(want));
    }
}
