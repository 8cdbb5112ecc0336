import java.util.NoSuchElementException;

/** Promises 49, 50 and 53. */
public final class LoadAndSoundTest {
    private static final Class<NoSuchElementException> NONE = NoSuchElementException.class;
    private static final Check check = new Check("LoadAndSoundTest");

    public static void main(String[] args) {
        load();
        everyLoad();
        sound();
        soundWithSameMark();
        check.end();
    }

    private static void load() {
        Vaultgarden x = new Vaultgarden();
        x.addUser(1);
        x.addGroup(0, 3);
        x.addFile(0, 0);
        check.refused("load(1)", NONE, () -> x.load(1));
        check.refused("load(-1)", NONE, () -> x.load(-1));
        check.refused("loadBits(1)", NONE, () -> x.loadBits(1));
        check.refused("loadBits(-1)", NONE, () -> x.loadBits(-1));
        check.due("load(0)", x.load(0), 0f);
        check.due("loadBits(0)", x.loadBits(0), 0);
        x.write(0, 0, 0, 1);
        check.due("load(0), a third", x.load(0), 1f / 3f);
        check.due("loadBits(0), a third", x.loadBits(0), 0x3eaaaaab);
        x.throwAway(0, 0);
        check.due("load(0), thrown away", x.load(0), 1f / 3f);
        x.purge();
        check.due("load(0), purged", x.load(0), 0f);
    }

    private static void everyLoad() {
        for (int quota = 1; quota <= 40; quota++) {
            Vaultgarden x = new Vaultgarden();
            x.addUser(1);
            x.addGroup(0, quota);
            for (int parts = 1; parts <= quota; parts++) {
                if (parts % 8 == 1) {
                    x.addFile(0, 0);
                }
                x.write(0, (parts - 1) / 8, parts % 8, parts);
                float want = (float) parts / (float) quota;
                check.due("load, " + parts + " of " + quota, x.load(0), want);
                check.due("loadBits, " + parts + " of " + quota, x.loadBits(0), Float.floatToIntBits(want));
            }
        }
    }

    private static void sound() {
        Vaultgarden x = new Vaultgarden();
        check.due("isSound(), nothing there", x.isSound(), true);
        for (int i = 0; i < 6; i++) {
            x.addUser(i);
        }
        x.addGroup(0, 40);
        x.addGroup(5, 40);
        x.addFile(0, 0);
        x.addFile(0, 0);
        x.addFile(1, 5);
        for (int user = 1; user < 6; user++) {
            x.join(0, user);
            x.write(user, 0, user, -user);
            check.due("isSound(), written", x.isSound(), true);
        }
        for (int user = 1; user < 6; user++) {
            x.leave(0, user, user % 2 == 0);
            check.due("isSound(), left", x.isSound(), true);
            x.write(0, 1, user, user);
            check.due("isSound(), written again", x.isSound(), true);
        }
        x.spoil(0, 1, 77);
        check.due("isSound(), spoiled", x.isSound(), true);
        x.throwAway(0, 1);
        check.due("isSound(), thrown away", x.isSound(), true);
        x.purge();
        check.due("isSound(), purged", x.isSound(), true);
    }

    /**
     * Marks can be the same for other ciphers: then the file is not spoiled, but opens to something else. These
     * bits were found by trying.
     */
    private static void soundWithSameMark() {
        Vaultgarden x = new Vaultgarden();
        x.addUser(1);
        x.addGroup(0, 1);
        x.addFile(0, 0);
        x.write(0, 0, 0, 17);
        int cipher = x.spoil(0, 0, 45204070);
        check.due("the mark of the parts", Model.mix(Model.mix(6, 0), cipher), x.mark(0));
        check.due("status(0), the same mark", x.status(0), 'o');
        check.due("isSound(), the same mark", x.isSound(), false);
        check.due("read(0, 0, 0)", x.read(0, 0, 0), Model.unseal(cipher, Model.keyOfPart(0, 0, 0)));
        x.throwAway(0, 0);
        check.due("isSound(), thrown away", x.isSound(), true);
    }
}
