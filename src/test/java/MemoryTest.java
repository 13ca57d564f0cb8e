/** Promises 2 and 3: poke and peek. */
public final class MemoryTest {
    private static final int[] NO_PLACES = {-1, 768, 769, 799, 800, 1024, Integer.MIN_VALUE, Integer.MAX_VALUE};
    private static final int[] NO_BYTES = {-1, 256, Integer.MIN_VALUE, Integer.MAX_VALUE};

    public static void main(String[] args) {
        Check check = new Check();
        keepsEachByteApart(check);
        takesTheEdges(check);
        refusesWrongInputs(check);
        seesWhatTheProcessorStores(check);
        check.end();
    }

    private static void keepsEachByteApart(Check check) {
        for (int from = 0; from < 768; from += 256) {
            PictureMachine machine = new PictureMachine();
            for (int i = 0; i < 256; i++) {
                machine.poke(from + i, 255 - i);
            }
            for (int i = 0; i < 255; i++) {
                check.due("peek(" + (from + i) + ")", machine.peek(from + i), 255 - i);
            }
        }
    }

    private static void takesTheEdges(Check check) {
        PictureMachine machine = new PictureMachine();
        machine.poke(0, 255);
        machine.poke(767, 1);
        check.due("peek(0)", machine.peek(0), 255);
        check.due("peek(1)", machine.peek(1), 0);
        check.due("peek(767)", machine.peek(767), 1);
        machine.poke(767, 0);
        check.due("peek(767) later", machine.peek(767), 0);
    }

    private static void refusesWrongInputs(Check check) {
        PictureMachine machine = new PictureMachine();
        for (int a : NO_PLACES) {
            check.refuses("poke(" + a + ", 1)", machine, () -> machine.poke(a, 1));
            check.refuses("peek(" + a + ")", machine, () -> machine.peek(a));
        }
        PictureMachine other = new PictureMachine();
        for (int b : NO_BYTES) {
            check.refuses("poke(0, " + b + ")", other, () -> other.poke(0, b));
        }
    }

    private static void seesWhatTheProcessorStores(Check check) {
        PictureMachine machine = Machines.withProgram(0xA9, 77, 0x8D, 0xFF, 0x02);
        machine.run(6);
        check.due("peek(767) after STA", machine.peek(767), 77);
    }
}
