import java.util.NoSuchElementException;

/** Promises 35 to 38. */
public final class ClientsTest {
    private static final Class<NoSuchElementException> NONE = NoSuchElementException.class;
    private static final Class<IllegalArgumentException> BAD = IllegalArgumentException.class;
    private static final Check check = new Check("ClientsTest");

    public static void main(String[] args) {
        wrongInputs();
        show();
        meet();
        check.end();
    }

    private static Vaultgarden garden() {
        Vaultgarden x = new Vaultgarden();
        for (int i = 0; i < 3; i++) {
            x.addUser(i);
        }
        x.addGroup(0, 9);
        x.addFile(0, 0);
        for (int i = 0; i < 10; i++) {
            x.write(0, 0, 0, i);
        }
        return x;
    }

    private static void wrongInputs() {
        Vaultgarden x = garden();
        check.refused("show(3, 11)", NONE, () -> x.show(3, 11));
        check.refused("show(0, 11)", BAD, () -> x.show(0, 11));
        check.refused("show(0, -1)", BAD, () -> x.show(0, -1));
        check.refused("meet(0, 3)", NONE, () -> x.meet(0, 3));
        check.refused("meet(3, 3)", NONE, () -> x.meet(3, 3));
        check.refused("meet(-1, 0)", NONE, () -> x.meet(-1, 0));
        check.refused("meet(1, 1)", BAD, () -> x.meet(1, 1));
        check.refused("head(3)", NONE, () -> x.head(3));
        check.refused("head(-1)", NONE, () -> x.head(-1));
        check.refused("alarms(3)", NONE, () -> x.alarms(3));
        check.refused("alarms(-1)", NONE, () -> x.alarms(-1));
        check.due("no alarms", x.alarms(0), 0);
    }

    private static void show() {
        Vaultgarden x = garden();
        check.due("head(0)", x.head(0), 0);
        check.due("show(0, 0)", x.show(0, 0), 'k');
        check.due("show(0, 5)", x.show(0, 5), 'k');
        check.due("head(0), 5", x.head(0), 5);
        check.due("show(0, 5) again", x.show(0, 5), 'k');
        check.due("show(0, 4), less", x.show(0, 4), 'a');
        check.due("head(0) stays", x.head(0), 5);
        check.due("alarms(0)", x.alarms(0), 1);
        check.due("alarms(1)", x.alarms(1), 0);
        check.due("show(0, 10)", x.show(0, 10), 'k');
        x.forget(8);
        check.due("show(0, 8), forgotten", x.show(0, 8), 'a');
        x.write(0, 0, 0, 8);
        x.write(0, 0, 0, 9);
        check.due("show(0, 10), the same leaves again", x.show(0, 10), 'k');
        x.forget(9);
        x.write(0, 0, 0, 77);
        x.write(0, 0, 0, 78);
        check.due("show(0, 11), another leaf", x.show(0, 11), 'a');
        check.due("head(0), 10", x.head(0), 10);
        check.due("alarms(0), 3", x.alarms(0), 3);
        check.due("show(1, 11)", x.show(1, 11), 'k');
        x.forget(0);
        check.due("show(2, 0), the first", x.show(2, 0), 'k');
        check.due("show(1, 0), forgotten", x.show(1, 0), 'a');
    }

    private static void meet() {
        Vaultgarden x = garden();
        check.due("meet(0, 1), both at 0", x.meet(0, 1), 'k');
        x.show(0, 5);
        check.due("meet(0, 1), 5 and 0", x.meet(0, 1), 'k');
        x.show(1, 9);
        check.due("meet(0, 1), 5 and 9", x.meet(0, 1), 'k');
        check.due("meeting gives no head", x.head(0), 5);
        x.forget(7);
        check.due("meet(0, 1), 9 forgotten", x.meet(0, 1), 'a');
        check.due("meet(1, 0), the other way", x.meet(1, 0), 'a');
        check.due("alarms(0)", x.alarms(0), 2);
        check.due("alarms(1)", x.alarms(1), 2);
        check.due("alarms(2)", x.alarms(2), 0);
        check.due("meet(0, 2), 5 and 0", x.meet(0, 2), 'k');
        x.write(0, 0, 0, 70);
        x.write(0, 0, 0, 71);
        check.due("meet(0, 1), other leaves", x.meet(0, 1), 'a');
        Vaultgarden y = garden();
        y.show(0, 9);
        y.show(1, 9);
        y.forget(3);
        check.due("meet, the same heads, both forgotten", y.meet(0, 1), 'k');
        y.show(2, 3);
        for (int i = 0; i < 6; i++) {
            y.write(0, 0, 0, 50 + i);
        }
        y.show(2, 9);
        check.due("meet, as many leaves, other roots", y.meet(2, 1), 'a');
        check.due("meet, as many leaves, other roots, the other way", y.meet(0, 2), 'a');
    }
}
