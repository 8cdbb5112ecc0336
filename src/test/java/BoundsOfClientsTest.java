import java.util.NoSuchElementException;

/** A test for each sentence of promises 35 to 38 and of "Servers and clients" that names a boundary. */
public final class BoundsOfClientsTest {
    private static final Class<NoSuchElementException> NONE = NoSuchElementException.class;
    private static final Class<IllegalArgumentException> BAD = IllegalArgumentException.class;
    private static final int LOWEST = Integer.MIN_VALUE;
    private static final int HIGHEST = Integer.MAX_VALUE;
    private static final int[] NO_USERS = {-1, 4, 5, 6, LOWEST, HIGHEST};
    private static final Check check = new Check("BoundsOfClientsTest");

    public static void main(String[] args) {
        showNoUser();
        showNotSoMany();
        reasonsOfShow();
        headAtFirst();
        showNotLess();
        showAnotherRoot();
        showAfterForgetting();
        showNoneAndAll();
        anAlarmKeepsTheHead();
        meetNoUser();
        meetOneself();
        reasonsOfMeet();
        meetWithTheSameHeads();
        meetWithOtherHeads();
        bothHaveAnAlarm();
        meetWithHeadsOfNone();
        headAndAlarmsOfNone();
        check.end();
    }

    private static Scene log(int leaves) {
        return Scene.gardenWithFile(check).withLeaves(leaves);
    }

    // ---- show ----

    /** "Throws NoSuchElementException if there is no such user" */
    private static void showNoUser() {
        Scene s = log(5);
        for (int user : NO_USERS) {
            s.refused("show(" + user + ", 5)", NONE, x -> x.show(user, 5));
        }
        s.due("show(3, 5), the last user", 'k', x -> x.show(3, 5));
        s.due("show(0, 5), the first user", 'k', x -> x.show(0, 5));
    }

    /** "Throws IllegalArgumentException if there are not so many" */
    private static void showNotSoMany() {
        Scene s = log(5);
        for (int leaves : new int[] {6, 300, 301, -1, LOWEST, HIGHEST}) {
            s.refused("show(0, " + leaves + ")", BAD, x -> x.show(0, leaves));
        }
        s.due("show(0, 5), all", 'k', x -> x.show(0, 5));
        s.with(x -> x.forget(4));
        s.refused("show(0, 5), forgotten", BAD, x -> x.show(0, 5));
        s.due("alarms(0), refused ones are none", 0, x -> x.alarms(0));
    }

    private static void reasonsOfShow() {
        Scene s = log(5);
        s.refused("show(4, 6)", NONE, x -> x.show(4, 6));
        s.refused("show(-1, -1)", NONE, x -> x.show(-1, -1));
    }

    /** "at first 0 and 0" */
    private static void headAtFirst() {
        Scene s = log(5);
        s.due("head(0), at first", 0, x -> x.head(0));
        s.due("show(0, 0), at first", 'k', x -> x.show(0, 0));
        s.due("head(0), shown none", 0, x -> x.head(0));
        s.due("alarms(0)", 0, x -> x.alarms(0));
        s.due("show(0, 1), one", 'k', x -> x.show(0, 1));
        s.due("head(0)", 1, x -> x.head(0));
        s.due("head(1), another user", 0, x -> x.head(1));
        s.with(x -> x.addUser(5));
        s.due("head(4), a new user", 0, x -> x.head(4));
        s.due("show(4, 5)", 'k', x -> x.show(4, 5));
    }

    /** "the user accepts it if it is not less than that of the head" */
    private static void showNotLess() {
        Scene s = log(9);
        s.due("show(0, 5)", 'k', x -> x.show(0, 5));
        s.due("show(0, 5), the same", 'k', x -> x.show(0, 5));
        s.due("show(0, 4), one less", 'a', x -> x.show(0, 4));
        s.due("show(0, 0), none", 'a', x -> x.show(0, 0));
        s.due("show(0, 6), one more", 'k', x -> x.show(0, 6));
        s.due("show(0, 9), all", 'k', x -> x.show(0, 9));
        s.due("alarms(0)", 2, x -> x.alarms(0));
        s.due("head(0)", 9, x -> x.head(0));
    }

    /** "and the first ones as many as that of the head have its root" */
    private static void showAnotherRoot() {
        Scene s = log(5).with(x -> x.show(0, 5)).with(x -> x.show(1, 4)).with(x -> x.forget(4));
        s.with(x -> x.write(0, 0, 0, 1000)).with(x -> x.write(0, 0, 0, 1001));
        s.due("show(0, 5), another last leaf", 'a', x -> x.show(0, 5));
        s.due("show(0, 6), another last leaf", 'a', x -> x.show(0, 6));
        s.due("show(1, 5), the first 4 are the same", 'k', x -> x.show(1, 5));
        s.due("show(1, 6)", 'k', x -> x.show(1, 6));
        s.due("alarms(0)", 2, x -> x.alarms(0));
        s.due("alarms(1)", 0, x -> x.alarms(1));
    }

    /** "The server can forget all leaves behind some number.": found out when it shows fewer ones, or other ones. */
    private static void showAfterForgetting() {
        Scene s = log(5).with(x -> x.show(0, 5)).with(x -> x.forget(4));
        s.due("show(0, 4), one forgotten", 'a', x -> x.show(0, 4));
        s.due("head(0)", 5, x -> x.head(0));
        s.with(x -> x.write(0, 0, 0, 4));
        s.due("show(0, 5), the same leaf again", 'k', x -> x.show(0, 5));
        s.with(x -> x.forget(0));
        s.due("show(0, 0), all forgotten", 'a', x -> x.show(0, 0));
        s.due("show(1, 0), by who saw none", 'k', x -> x.show(1, 0));
        s.due("alarms(0)", 2, x -> x.alarms(0));
    }

    private static void showNoneAndAll() {
        Scene s = log(300);
        s.due("show(0, 0)", 'k', x -> x.show(0, 0));
        s.due("show(0, 299)", 'k', x -> x.show(0, 299));
        s.due("show(0, 300)", 'k', x -> x.show(0, 300));
        s.refused("show(0, 301)", BAD, x -> x.show(0, 301));
        s.due("show(0, 299), one less", 'a', x -> x.show(0, 299));
        s.due("head(0)", 300, x -> x.head(0));
        Scene none = new Scene(check).with(x -> x.addUser(1));
        none.due("show(0, 0), no leaves", 'k', x -> x.show(0, 0));
        none.refused("show(0, 1), no leaves", BAD, x -> x.show(0, 1));
    }

    /** "Each user keeps the head that was accepted last" */
    private static void anAlarmKeepsTheHead() {
        Scene s = log(6).with(x -> x.show(0, 5)).with(x -> x.forget(4)).with(x -> x.write(0, 0, 0, 1000));
        s.with(x -> x.write(0, 0, 0, 1001));
        s.due("show(0, 6), another root", 'a', x -> x.show(0, 6));
        s.due("head(0), kept", 5, x -> x.head(0));
        s.due("show(0, 6) again, not accepted before", 'a', x -> x.show(0, 6));
        s.with(x -> x.forget(4)).with(x -> x.write(0, 0, 0, 4)).with(x -> x.write(0, 0, 0, 5));
        s.due("show(0, 6), the leaves of the kept head", 'k', x -> x.show(0, 6));
        s.due("alarms(0)", 2, x -> x.alarms(0));
    }

    // ---- meet ----

    /** "Throws NoSuchElementException if there is no such user, for either" */
    private static void meetNoUser() {
        Scene s = log(5).with(x -> x.show(0, 5));
        for (int user : NO_USERS) {
            s.refused("meet(" + user + ", 0)", NONE, x -> x.meet(user, 0));
            s.refused("meet(0, " + user + ")", NONE, x -> x.meet(0, user));
        }
        s.due("meet(0, 3)", 'k', x -> x.meet(0, 3));
        s.due("meet(3, 0)", 'k', x -> x.meet(3, 0));
    }

    /** "Throws IllegalArgumentException if both are the same" */
    private static void meetOneself() {
        Scene s = log(5);
        for (int user : new int[] {0, 1, 2, 3}) {
            s.refused("meet(" + user + ", " + user + ")", BAD, x -> x.meet(user, user));
        }
        s.with(x -> x.show(0, 5)).with(x -> x.forget(4));
        s.refused("meet(0, 0), forgotten", BAD, x -> x.meet(0, 0));
        s.due("alarms(0)", 0, x -> x.alarms(0));
    }

    private static void reasonsOfMeet() {
        Scene s = log(5);
        s.refused("meet(4, 4), no users, the same", NONE, x -> x.meet(4, 4));
        s.refused("meet(-1, -1), no users, the same", NONE, x -> x.meet(-1, -1));
    }

    /** "they are content if both heads are the same", whatever the server shows */
    private static void meetWithTheSameHeads() {
        Scene s = log(5).with(x -> x.show(0, 5)).with(x -> x.show(1, 5));
        s.due("meet(0, 1)", 'k', x -> x.meet(0, 1));
        s.with(x -> x.forget(4));
        s.due("meet(0, 1), forgotten", 'k', x -> x.meet(0, 1));
        s.with(x -> x.write(0, 0, 0, 1000));
        s.due("meet(0, 1), another leaf", 'k', x -> x.meet(0, 1));
        s.with(x -> x.show(2, 5));
        s.due("meet(0, 2), as many leaves, another root", 'a', x -> x.meet(0, 2));
        s.due("meet(2, 1), as many leaves, another root", 'a', x -> x.meet(2, 1));
    }

    /** "or the server can show them, now, that the first ones as many as either head tells have the root that ..." */
    private static void meetWithOtherHeads() {
        Scene s = log(9).with(x -> x.show(0, 5)).with(x -> x.show(1, 8));
        s.due("meet(0, 1)", 'k', x -> x.meet(0, 1));
        s.with(x -> x.forget(8));
        s.due("meet(0, 1), as many as the greater head", 'k', x -> x.meet(0, 1));
        s.with(x -> x.forget(7));
        s.due("meet(0, 1), one less than the greater head", 'a', x -> x.meet(0, 1));
        s.due("meet(1, 0), the other way", 'a', x -> x.meet(1, 0));
        s.with(x -> x.write(0, 0, 0, 7));
        s.due("meet(0, 1), the same leaf again", 'k', x -> x.meet(0, 1));
        s.with(x -> x.forget(7)).with(x -> x.write(0, 0, 0, 1000));
        s.due("meet(0, 1), the greater root is another", 'a', x -> x.meet(0, 1));
        s.with(x -> x.show(2, 8)).with(x -> x.forget(4));
        for (int i = 0; i < 4; i++) {
            int value = 2000 + i;
            s.with(x -> x.write(0, 0, 0, value));
        }
        s.with(x -> x.show(3, 8));
        s.due("meet(0, 3), the smaller root is another", 'a', x -> x.meet(0, 3));
        s.due("meet(3, 0), the other way", 'a', x -> x.meet(3, 0));
    }

    /** "otherwise, both have an alarm" */
    private static void bothHaveAnAlarm() {
        Scene s = log(5).with(x -> x.show(0, 5)).with(x -> x.show(1, 3)).with(x -> x.forget(4));
        s.due("meet(0, 1)", 'a', x -> x.meet(0, 1));
        s.due("alarms(0)", 1, x -> x.alarms(0));
        s.due("alarms(1)", 1, x -> x.alarms(1));
        s.due("alarms(2)", 0, x -> x.alarms(2));
        s.due("meet(2, 0)", 'a', x -> x.meet(2, 0));
        s.due("alarms(0), twice", 2, x -> x.alarms(0));
        s.due("alarms(1)", 1, x -> x.alarms(1));
        s.due("alarms(2)", 1, x -> x.alarms(2));
        s.due("meet(1, 2), both heads are shown", 'k', x -> x.meet(1, 2));
        s.due("alarms(1), content", 1, x -> x.alarms(1));
        s.due("head(0), meeting changes no head", 5, x -> x.head(0));
        s.due("head(1), meeting changes no head", 3, x -> x.head(1));
    }

    private static void meetWithHeadsOfNone() {
        Scene s = log(5);
        s.due("meet(0, 1), both at first", 'k', x -> x.meet(0, 1));
        s.with(x -> x.show(0, 5));
        s.due("meet(0, 1), one at first", 'k', x -> x.meet(0, 1));
        s.due("meet(1, 0), one at first", 'k', x -> x.meet(1, 0));
        s.with(x -> x.forget(0));
        s.due("meet(0, 1), all forgotten", 'a', x -> x.meet(0, 1));
        s.due("meet(1, 2), both at first, all forgotten", 'k', x -> x.meet(1, 2));
        Scene empty = new Scene(check).with(x -> x.addUser(1)).with(x -> x.addUser(1));
        empty.due("meet(0, 1), no leaves", 'k', x -> x.meet(0, 1));
        empty.due("alarms(0)", 0, x -> x.alarms(0));
    }

    // ---- head, alarms ----

    /** "Throws NoSuchElementException if there is no such user" */
    private static void headAndAlarmsOfNone() {
        Scene s = log(5).with(x -> x.show(3, 4)).with(x -> x.show(3, 0));
        for (int user : NO_USERS) {
            s.refused("head(" + user + ")", NONE, x -> x.head(user));
            s.refused("alarms(" + user + ")", NONE, x -> x.alarms(user));
        }
        s.due("head(0)", 0, x -> x.head(0));
        s.due("head(3)", 4, x -> x.head(3));
        s.due("alarms(0)", 0, x -> x.alarms(0));
        s.due("alarms(3)", 1, x -> x.alarms(3));
    }
}
