import java.util.NoSuchElementException;

/** A test for each sentence of promises 23 to 26, 51 and 52 and of "Words" that names a boundary. */
public final class BoundsOfWordsTest {
    private static final Class<NoSuchElementException> NONE = NoSuchElementException.class;
    private static final Class<IllegalArgumentException> BAD = IllegalArgumentException.class;
    private static final Class<IllegalStateException> STATE = IllegalStateException.class;
    private static final Class<UnsupportedOperationException> RIGHT = UnsupportedOperationException.class;
    private static final Class<IndexOutOfBoundsException> PLACE = IndexOutOfBoundsException.class;
    private static final Class<ArithmeticException> DIVISION = ArithmeticException.class;
    private static final int LOWEST = Integer.MIN_VALUE;
    private static final int HIGHEST = Integer.MAX_VALUE;
    private static final int[] NO_USERS = {-1, 4, 5, 6, LOWEST, HIGHEST};
    private static final int[] NO_GROUPS = {-1, 2, 4, 5, LOWEST, HIGHEST};
    private static final int[] NO_FILES = {-1, 1, 19, 20, LOWEST, HIGHEST};
    private static final int[] NO_WORDS = {-1, 100, LOWEST, HIGHEST};
    private static final Check check = new Check("BoundsOfWordsTest");

    public static void main(String[] args) {
        tellNone();
        tellNoWord();
        tellByNoMember();
        tellInAnyState();
        keptOnce();
        sixtyTokens();
        reasonsOfTell();
        askNone();
        askNoWord();
        askWithoutKey();
        reasonsOfAsk();
        tokensOfAllEpochsKnown();
        newAndRepeated();
        thousandsOfTokensRepeated();
        filesThrownAwayIncluded();
        allFilesTold();
        foundAtNone();
        noSuchLetter();
        filesCountedEachTime();
        meanOfNoQuestions();
        meanOfQuestions();
        check.end();
    }

    // ---- tell ----

    /** "Throws NoSuchElementException if there is no such user or file" */
    private static void tellNone() {
        Scene s = Scene.gardenWithFile(check);
        for (int user : NO_USERS) {
            s.refused("tell(" + user + ", 0, 5)", NONE, x -> x.tell(user, 0, 5));
        }
        for (int file : NO_FILES) {
            s.refused("tell(0, " + file + ", 5)", NONE, x -> x.tell(0, file, 5));
        }
        s.due("tell(1, 0, 5)", 1, x -> x.tell(1, 0, 5));
    }

    /** "Words are from 0 to 99."; "Throws IllegalArgumentException if there is no such word" */
    private static void tellNoWord() {
        Scene s = Scene.gardenWithFile(check);
        for (int word : NO_WORDS) {
            s.refused("tell(0, 0, " + word + ")", BAD, x -> x.tell(0, 0, word));
        }
        s.due("tell(0, 0, 0)", 1, x -> x.tell(0, 0, 0));
        s.due("tell(0, 0, 99)", 2, x -> x.tell(0, 0, 99));
        s.due("ask(0, 0, 0)", 1, x -> x.ask(0, 0, 0));
        s.due("ask(0, 0, 99)", 1, x -> x.ask(0, 0, 99));
        s.due("ask(0, 0, 1)", 0, x -> x.ask(0, 0, 1));
        s.due("ask(0, 0, 98)", 0, x -> x.ask(0, 0, 98));
    }

    /** "Throws UnsupportedOperationException if the user is no member of its group" */
    private static void tellByNoMember() {
        Scene s = Scene.gardenWithFile(check);
        s.refused("tell(3, 0, 5), never a member", RIGHT, x -> x.tell(3, 0, 5));
        s.refused("tell(2, 0, 5), a member of another group", RIGHT, x -> x.tell(2, 0, 5));
        s.due("tell(1, 0, 5), a member", 1, x -> x.tell(1, 0, 5));
        s.with(x -> x.leave(0, 1, true));
        s.refused("tell(1, 0, 5), who left", RIGHT, x -> x.tell(1, 0, 5));
        s.with(x -> x.join(0, 1));
        s.due("tell(1, 0, 5), a member again, another epoch", 2, x -> x.tell(1, 0, 5));
    }

    /** "also for one that is thrown away or spoiled, and by a user who is away" */
    private static void tellInAnyState() {
        Scene s = Scene.gardenWithFile(check).with(x -> x.goAway(0));
        s.due("tell(0, 0, 5), away", 1, x -> x.tell(0, 0, 5));
        s.with(x -> x.spoil(0, 0, 1));
        s.due("tell(1, 0, 6), spoiled", 2, x -> x.tell(1, 0, 6));
        s.with(x -> x.throwAway(0, 0));
        s.due("tell(1, 0, 7), thrown away", 3, x -> x.tell(1, 0, 7));
        s.with(x -> x.purge());
        s.due("tell(0, 0, 8), purged", 4, x -> x.tell(0, 0, 8));
        Scene full = Scene.gardenWithFile(check).withLeaves(300);
        full.due("tell(0, 0, 5), 300 leaves", 1, x -> x.tell(0, 0, 5));
        full.due("leaves(), words tell the log nothing", 300, x -> x.leaves());
    }

    /** "the same token with the same file is kept once" */
    private static void keptOnce() {
        Scene s = Scene.gardenWithFile(check).with(x -> x.addFile(0, 0)).with(x -> x.addFile(1, 2));
        s.due("tell(0, 0, 5)", 1, x -> x.tell(0, 0, 5));
        s.due("tell(0, 0, 5) again", 1, x -> x.tell(0, 0, 5));
        s.due("tell(1, 0, 5), by another", 1, x -> x.tell(1, 0, 5));
        s.due("tell(0, 1, 5), for another file", 2, x -> x.tell(0, 1, 5));
        s.due("tell(0, 0, 6), another word", 3, x -> x.tell(0, 0, 6));
        s.due("tell(2, 2, 5), in another group", 4, x -> x.tell(2, 2, 5));
        s.with(x -> x.leave(0, 1, false));
        s.due("tell(0, 0, 5), in another epoch", 5, x -> x.tell(0, 0, 5));
        s.due("tell(0, 0, 5), in another epoch, again", 5, x -> x.tell(0, 0, 5));
    }

    /** "at most 60 are kept"; "Throws IllegalStateException if 60 tokens are kept, and this is not among them" */
    private static void sixtyTokens() {
        Scene s = Scene.gardenWithFile(check).with(x -> x.addFile(0, 0)).with(x -> x.addFile(1, 2));
        for (int i = 0; i < 60; i++) {
            int word = i;
            s.due("tell(0, 0, " + word + ")", word + 1, x -> x.tell(0, 0, word));
        }
        s.refused("tell(0, 0, 60), the 61st", STATE, x -> x.tell(0, 0, 60));
        s.refused("tell(0, 1, 5), the 61st, for another file", STATE, x -> x.tell(0, 1, 5));
        s.refused("tell(2, 2, 5), the 61st, in another group", STATE, x -> x.tell(2, 2, 5));
        s.due("tell(0, 0, 0), the first, among them", 60, x -> x.tell(0, 0, 0));
        s.due("tell(1, 0, 59), the last, among them", 60, x -> x.tell(1, 0, 59));
        s.due("ask(0, 0, 59), the last", 1, x -> x.ask(0, 0, 59));
        s.due("ask(0, 0, 60), refused", 0, x -> x.ask(0, 0, 60));
        s.with(x -> x.leave(0, 1, false));
        s.refused("tell(0, 0, 0), in another epoch", STATE, x -> x.tell(0, 0, 0));
        s.with(x -> x.throwAway(0, 0)).with(x -> x.purge());
        s.refused("tell(0, 1, 1), the words of a purged file are kept", STATE, x -> x.tell(0, 1, 1));
    }

    private static void reasonsOfTell() {
        Scene s = Scene.gardenWithFile(check);
        s.refused("no user, no word", NONE, x -> x.tell(4, 0, 100));
        s.refused("no file, no word", NONE, x -> x.tell(0, 1, -1));
        s.refused("no file, never a member", NONE, x -> x.tell(3, 1, 5));
        s.refused("no word, never a member", BAD, x -> x.tell(3, 0, 100));
        for (int i = 0; i < 60; i++) {
            int word = i;
            s.with(x -> x.tell(0, 0, word));
        }
        s.refused("60 tokens, no user", NONE, x -> x.tell(4, 0, 60));
        s.refused("60 tokens, no file", NONE, x -> x.tell(0, 1, 60));
        s.refused("60 tokens, no word", BAD, x -> x.tell(0, 0, 100));
        s.refused("60 tokens, no word below", BAD, x -> x.tell(0, 0, -1));
        s.refused("60 tokens, never a member", RIGHT, x -> x.tell(3, 0, 60));
        s.refused("60 tokens, never a member, among them", RIGHT, x -> x.tell(3, 0, 0));
    }

    // ---- ask ----

    /** "Throws NoSuchElementException if there is no such user or group" */
    private static void askNone() {
        Scene s = Scene.gardenWithFile(check).with(x -> x.tell(0, 0, 5)).with(x -> x.ask(0, 0, 5));
        for (int user : NO_USERS) {
            s.refused("ask(" + user + ", 0, 5)", NONE, x -> x.ask(user, 0, 5));
        }
        for (int group : NO_GROUPS) {
            s.refused("ask(0, " + group + ", 5)", NONE, x -> x.ask(0, group, 5));
        }
        s.due("ask(2, 1, 5)", 0, x -> x.ask(2, 1, 5));
    }

    /** "Throws IllegalArgumentException if there is no such word" */
    private static void askNoWord() {
        Scene s = Scene.gardenWithFile(check).with(x -> x.tell(0, 0, 5)).with(x -> x.ask(0, 0, 5));
        for (int word : NO_WORDS) {
            s.refused("ask(0, 0, " + word + ")", BAD, x -> x.ask(0, 0, word));
        }
        s.due("shown(n), refused ones show nothing", 1, x -> x.shown('n'));
        s.due("ask(0, 0, 0)", 0, x -> x.ask(0, 0, 0));
        s.due("ask(0, 0, 99)", 0, x -> x.ask(0, 0, 99));
        s.due("shown(n)", 3, x -> x.shown('n'));
    }

    /** "Throws UnsupportedOperationException if the user knows no key of the group" */
    private static void askWithoutKey() {
        Scene s = Scene.gardenWithFile(check).with(x -> x.tell(0, 0, 5)).with(x -> x.ask(0, 0, 5));
        s.refused("ask(3, 0, 5), never a member", RIGHT, x -> x.ask(3, 0, 5));
        s.refused("ask(2, 0, 5), a member of another group", RIGHT, x -> x.ask(2, 0, 5));
        s.refused("ask(0, 1, 5), a member of another group", RIGHT, x -> x.ask(0, 1, 5));
        s.with(x -> x.leave(0, 1, true));
        s.due("ask(1, 0, 5), who left, knows epoch 0", 1, x -> x.ask(1, 0, 5));
        s.refused("ask(3, 0, 5), in epoch 1", RIGHT, x -> x.ask(3, 0, 5));
        s.with(x -> x.join(0, 3)).with(x -> x.goAway(3));
        s.due("ask(3, 0, 5), a member who is away", 1, x -> x.ask(3, 0, 5));
    }

    private static void reasonsOfAsk() {
        Scene s = Scene.gardenWithFile(check).with(x -> x.tell(0, 0, 5)).with(x -> x.ask(0, 0, 5));
        s.refused("no user, no word", NONE, x -> x.ask(4, 0, 100));
        s.refused("no group, no word", NONE, x -> x.ask(0, 2, -1));
        s.refused("no word, no key", BAD, x -> x.ask(3, 0, 100));
        s.refused("no word below, no key", BAD, x -> x.ask(3, 0, -1));
        s.refused("no group, no user, no word", NONE, x -> x.ask(-1, -1, -1));
    }

    /** "the tokens of it for all epochs that the user knows there" */
    private static void tokensOfAllEpochsKnown() {
        Scene s = Scene.garden(check).with(x -> x.join(0, 2)).with(x -> x.addFile(0, 0)).with(x -> x.addFile(0, 0));
        s.with(x -> x.addFile(0, 0));
        s.with(x -> x.tell(0, 0, 5)).with(x -> x.leave(0, 1, false)).with(x -> x.tell(0, 1, 5));
        s.with(x -> x.leave(0, 2, false)).with(x -> x.tell(0, 2, 5));
        s.due("ask(1, 0, 5), knows epoch 0", 1, x -> x.ask(1, 0, 5));
        s.due("shown(n)", 1, x -> x.shown('n'));
        s.due("foundAt(0)", 0, x -> x.foundAt(0));
        s.due("ask(2, 0, 5), knows up to 1", 2, x -> x.ask(2, 0, 5));
        s.due("shown(n), one more", 2, x -> x.shown('n'));
        s.due("foundAt(1)", 1, x -> x.foundAt(1));
        s.due("ask(0, 0, 5), knows up to 2", 3, x -> x.ask(0, 0, 5));
        s.due("shown(n), one more", 3, x -> x.shown('n'));
        s.due("shown(r)", 3, x -> x.shown('r'));
        s.due("foundAt(2)", 2, x -> x.foundAt(2));
        s.with(x -> x.join(0, 1));
        s.due("ask(1, 0, 5), a member again", 3, x -> x.ask(1, 0, 5));
    }

    /** "Each token that was never shown before counts as new, each other one as repeated" */
    private static void newAndRepeated() {
        Scene s = Scene.gardenWithFile(check).with(x -> x.join(1, 0));
        s.due("ask(0, 0, 0)", 0, x -> x.ask(0, 0, 0));
        shown(s, 1, 0);
        s.due("ask(1, 0, 0), by another", 0, x -> x.ask(1, 0, 0));
        shown(s, 1, 1);
        s.due("ask(0, 0, 99), another word", 0, x -> x.ask(0, 0, 99));
        shown(s, 2, 1);
        s.due("ask(0, 1, 0), another group", 0, x -> x.ask(0, 1, 0));
        shown(s, 3, 1);
        s.with(x -> x.tell(0, 0, 50));
        shown(s, 3, 1);
        s.due("ask(0, 0, 50), told and never shown", 1, x -> x.ask(0, 0, 50));
        shown(s, 4, 1);
        s.with(x -> x.leave(0, 1, false));
        s.due("ask(0, 0, 0), in another epoch", 0, x -> x.ask(0, 0, 0));
        shown(s, 5, 2);
    }

    /** The same of all words in 101 epochs, each asked for twice: no token that was shown is ever new again. */
    private static void thousandsOfTokensRepeated() {
        Scene s = Scene.garden(check);
        for (int i = 0; i < 100; i++) {
            s.with(x -> x.leave(0, 1, false)).with(x -> x.join(0, 1));
        }
        for (int asked = 0; asked < 200; asked++) {
            int word = asked % 100;
            s.with(x -> x.ask(1, 0, word));
            if (asked % 100 == 99) {
                shown(s, 10100, asked < 100 ? 0 : 10100);
            }
        }
    }

    private static void shown(Scene s, int fresh, int repeated) {
        s.due("shown(n)", fresh, x -> x.shown('n'));
        s.due("shown(r)", repeated, x -> x.shown('r'));
    }

    /** "thrown-away files included" */
    private static void filesThrownAwayIncluded() {
        Scene s = Scene.gardenWithFile(check).with(x -> x.addFile(0, 0)).with(x -> x.tell(0, 1, 5));
        s.with(x -> x.tell(0, 0, 5)).with(x -> x.throwAway(0, 0));
        s.due("ask(0, 0, 5), thrown away", 2, x -> x.ask(0, 0, 5));
        s.due("foundAt(0)", 0, x -> x.foundAt(0));
        s.with(x -> x.purge());
        s.due("ask(1, 0, 5), purged", 2, x -> x.ask(1, 0, 5));
        s.due("foundAt(0), purged", 0, x -> x.foundAt(0));
        s.due("foundAt(1)", 1, x -> x.foundAt(1));
    }

    /** "it tells, by rising numbers, the files with one of them": none, all of them, each once */
    private static void allFilesTold() {
        Scene s = Scene.garden(check);
        for (int i = 0; i < 20; i++) {
            s.with(x -> x.addFile(0, 0));
        }
        s.due("ask(0, 0, 5), none", 0, x -> x.ask(0, 0, 5));
        for (int i = 0; i < 20; i++) {
            int file = 19 - i;
            s.with(x -> x.tell(0, file, 5));
        }
        s.with(x -> x.leave(0, 1, false));
        for (int i = 0; i < 20; i++) {
            int file = i;
            s.with(x -> x.tell(0, file, 5));
        }
        s.due("ask(0, 0, 5), all", 20, x -> x.ask(0, 0, 5));
        for (int i = 0; i < 20; i++) {
            int index = i;
            s.due("foundAt(" + index + ")", index, x -> x.foundAt(index));
        }
        s.refused("foundAt(20)", PLACE, x -> x.foundAt(20));
        s.due("shown(f)", 20, x -> x.shown('f'));
    }

    // ---- foundAt, shown ----

    /** "Throws IndexOutOfBoundsException if there is no such file"; "that the last question told" */
    private static void foundAtNone() {
        Scene s = Scene.gardenWithFile(check).with(x -> x.addFile(0, 0)).with(x -> x.tell(0, 0, 5));
        s.with(x -> x.tell(0, 1, 5));
        for (int index : new int[] {0, 1, -1}) {
            s.refused("foundAt(" + index + "), no question yet", PLACE, x -> x.foundAt(index));
        }
        s.due("ask(0, 0, 5)", 2, x -> x.ask(0, 0, 5));
        s.due("foundAt(0)", 0, x -> x.foundAt(0));
        s.due("foundAt(1)", 1, x -> x.foundAt(1));
        for (int index : new int[] {2, -1, 19, 20, LOWEST, HIGHEST}) {
            s.refused("foundAt(" + index + ")", PLACE, x -> x.foundAt(index));
        }
        s.refused("ask(0, 0, 100)", BAD, x -> x.ask(0, 0, 100));
        s.due("foundAt(1), a refused question tells nothing", 1, x -> x.foundAt(1));
        s.due("ask(0, 0, 6), none", 0, x -> x.ask(0, 0, 6));
        s.refused("foundAt(0), none", PLACE, x -> x.foundAt(0));
        s.with(x -> x.tell(0, 1, 7));
        s.due("ask(0, 0, 7), the second file alone", 1, x -> x.ask(0, 0, 7));
        s.due("foundAt(0), the second file", 1, x -> x.foundAt(0));
        s.refused("foundAt(1), of an earlier question", PLACE, x -> x.foundAt(1));
    }

    /** "Throws IllegalArgumentException if there is no such letter" */
    private static void noSuchLetter() {
        Scene s = Scene.gardenWithFile(check).with(x -> x.tell(0, 0, 5)).with(x -> x.ask(0, 0, 5));
        s.with(x -> x.ask(1, 0, 5)).with(x -> x.ask(1, 0, 5));
        for (char letter : new char[] {'m', 'o', 'q', 's', 'e', 'g', 'N', 'R', 'F', 'x', ' ', 0, 65535}) {
            s.refused("shown(" + (int) letter + ")", BAD, x -> x.shown(letter));
        }
        s.due("shown(n)", 1, x -> x.shown('n'));
        s.due("shown(r)", 2, x -> x.shown('r'));
        s.due("shown(f)", 3, x -> x.shown('f'));
    }

    /** "the files that are told are counted, each time" */
    private static void filesCountedEachTime() {
        Scene s = Scene.gardenWithFile(check).with(x -> x.addFile(0, 0)).with(x -> x.tell(0, 0, 5));
        s.due("ask(0, 0, 5)", 1, x -> x.ask(0, 0, 5));
        s.due("shown(f)", 1, x -> x.shown('f'));
        s.due("ask(0, 0, 5) again", 1, x -> x.ask(0, 0, 5));
        s.due("shown(f), the same file", 2, x -> x.shown('f'));
        s.due("ask(0, 0, 6), none", 0, x -> x.ask(0, 0, 6));
        s.due("shown(f), none", 2, x -> x.shown('f'));
        s.with(x -> x.tell(0, 1, 5));
        s.due("ask(1, 0, 5), two", 2, x -> x.ask(1, 0, 5));
        s.due("shown(f), two more", 4, x -> x.shown('f'));
    }

    // ---- meanTold, meanToldBits ----

    /** "Throws ArithmeticException if there were no questions" */
    private static void meanOfNoQuestions() {
        Scene s = Scene.gardenWithFile(check).with(x -> x.tell(0, 0, 5));
        s.refused("meanTold(), none", DIVISION, x -> x.meanTold());
        s.refused("meanToldBits(), none", DIVISION, x -> x.meanToldBits());
        s.refused("ask(3, 0, 5)", RIGHT, x -> x.ask(3, 0, 5));
        s.refused("ask(0, 0, 100)", BAD, x -> x.ask(0, 0, 100));
        s.refused("ask(4, 0, 5)", NONE, x -> x.ask(4, 0, 5));
        s.refused("meanTold(), only refused ones", DIVISION, x -> x.meanTold());
        s.refused("meanToldBits(), only refused ones", DIVISION, x -> x.meanToldBits());
        s.due("ask(0, 0, 6), none told", 0, x -> x.ask(0, 0, 6));
        s.due("meanTold(), one question", 0.0, x -> x.meanTold());
        s.due("meanToldBits(), one question", 0L, x -> x.meanToldBits());
    }

    /** "Returns the number of files divided by that of questions, both converted to double." */
    private static void meanOfQuestions() {
        Scene s = Scene.garden(check);
        for (int i = 0; i < 20; i++) {
            int file = i;
            s.with(x -> x.addFile(0, 0)).with(x -> x.tell(0, file, 5));
        }
        s.with(x -> x.ask(0, 0, 5));
        mean(s, 20, 1);
        s.with(x -> x.tell(0, 0, 6)).with(x -> x.ask(0, 0, 6));
        mean(s, 21, 2);
        s.with(x -> x.ask(0, 0, 7));
        mean(s, 21, 3);
        for (int questions = 4; questions < 60; questions++) {
            s.with(x -> x.ask(0, 0, 7));
            mean(s, 21, questions);
        }
        s.refused("ask(0, 0, -1)", BAD, x -> x.ask(0, 0, -1));
        mean(s, 21, 59);
        for (int files : new int[] {1, 2, 3, 4, 8, 16, 17}) {
            Scene one = Scene.garden(check);
            for (int i = 0; i < files; i++) {
                int file = i;
                one.with(x -> x.addFile(0, 0)).with(x -> x.tell(0, file, 5));
            }
            one.with(x -> x.ask(0, 0, 5));
            mean(one, files, 1);
        }
    }

    private static void mean(Scene s, int files, int questions) {
        double want = (double) files / (double) questions;
        s.due("meanTold(), " + files + " of " + questions, want, x -> x.meanTold());
        long bits = Double.doubleToLongBits(want);
        s.due("meanToldBits(), " + files + " of " + questions, bits, x -> x.meanToldBits());
    }
}
