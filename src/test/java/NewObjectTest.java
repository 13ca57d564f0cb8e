/** Promise 1: what can be seen of a new object. */
public final class NewObjectTest {
    private static final int[] PROCESSOR = {512, 0, 0, 0, 255, 0, 0, 0, 0, 0};
    private static final int[] STATE = {0, 0, 0, 0, 0, 0, -1, 0, 0, 0, 0, 0, 0, 0, 511, 0, 0, 0, 0, 0, 0};

    public static void main(String[] args) {
        Check check = new Check();
        seesEmptyMemory(check, 0, 384);
        seesEmptyMemory(check, 384, 768);
        seesEmptyDisk(check);
        seesNoDots(check);
        seesParts(check);
        objectsShareNothing(check);
        check.end();
    }

    private static void seesEmptyMemory(Check check, int from, int to) {
        PictureMachine machine = new PictureMachine();
        for (int a = from; a < to; a++) {
            check.due("peek(" + a + ")", machine.peek(a), 0);
        }
    }

    private static void seesEmptyDisk(Check check) {
        PictureMachine machine = new PictureMachine();
        for (int sector = 1; sector <= 8; sector++) {
            for (int i = 0; i < 8; i++) {
                check.due("sector(" + sector + ", " + i + ")", machine.sector(sector, i), 0);
            }
        }
    }

    private static void seesNoDots(Check check) {
        PictureMachine machine = new PictureMachine();
        for (int y = 1; y <= 12; y++) {
            for (int x = 0; x < 32; x++) {
                check.due("dot(" + y + ", " + x + ")", machine.dot(y, x), 0);
            }
        }
    }

    private static void seesParts(Check check) {
        PictureMachine machine = new PictureMachine();
        for (int what = 0; what < PROCESSOR.length; what++) {
            check.due("processor(" + what + ")", machine.processor(what), PROCESSOR[what]);
        }
        for (int what = 0; what < STATE.length; what++) {
            check.due("state(" + what + ")", machine.state(what), STATE[what]);
        }
    }

    private static void objectsShareNothing(Check check) {
        PictureMachine used = Machines.idle();
        used.write(8, 9);
        used.disk(1, 0, 9);
        used.write(23, 49);
        used.run(1000);
        check.due("a new object beside a used one", Machines.seen(new PictureMachine()),
            Machines.seen(new PictureMachine()));
        check.due("its memory", new PictureMachine().peek(512), 0);
        check.due("its disk", new PictureMachine().sector(1, 0), 0);
        check.due("its line", new PictureMachine().state(Machines.LINE), 0);
    }
}
