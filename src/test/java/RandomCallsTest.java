import java.util.Random;

/** Any calls in any state: nothing but what the document says is thrown, and every answer is within its bounds. */
public final class RandomCallsTest {
    private static final int OBJECTS = 300;
    private static final int CALLS = 512;
    private static final int[] MOST_OF_PROCESSOR = {1023, 255, 255, 255, 255, 131, 1, 1, 1, 6};
    private static final int[] MOST_OF_STATE = {
        2000, 15, 23, 1023, 1023, 1, 15, 7, 255, 255, 192, 14, 14, 1, 511, 255, 1, 1, 40, 8, 1,
    };

    private final Check check = new Check();
    private final Random random = new Random(20261115);

    public static void main(String[] args) {
        RandomCallsTest test = new RandomCallsTest();
        for (int i = 0; i < OBJECTS; i++) {
            test.useOne();
        }
        test.check.end();
    }

    private void useOne() {
        PictureMachine machine = new PictureMachine();
        for (int call = 0; call < CALLS; call++) {
            int kind = random.nextInt(16);
            try {
                answer(machine, call < 200 && kind > 4 ? 0 : kind);
            } catch (RuntimeException e) {
                check.due("a call with inputs as said throws", e.toString(), "nothing");
            }
        }
    }

    private void answer(PictureMachine machine, int kind) {
        switch (kind) {
            case 0 -> machine.poke(random.nextBoolean() ? 512 + random.nextInt(200) : random.nextInt(768), someByte());
            case 1 -> machine.write(random.nextInt(32), someByte());
            case 2 -> machine.write(0, 1 + 2 * random.nextInt(2));
            case 3 -> Machines.sendWithSum(machine, 49, random.nextBoolean() ? 82 : 87, 1 + random.nextInt(8));
            case 4 -> machine.write(23, someByte());
            case 5 -> machine.stick(someByte());
            case 6 -> machine.disk(1 + random.nextInt(8), random.nextInt(8), someByte());
            case 7 -> within("sector", machine.sector(1 + random.nextInt(8), random.nextInt(8)), 0, 255);
            case 8 -> within("peek", machine.peek(random.nextInt(768)), 0, 255);
            case 9 -> within("dot", machine.dot(1 + random.nextInt(12), random.nextInt(32)), 0, 255);
            case 10, 11 -> seeProcessor(machine, random.nextInt(MOST_OF_PROCESSOR.length));
            case 12, 13 -> seeState(machine, random.nextInt(MOST_OF_STATE.length));
            default -> seeRun(machine, random.nextInt(1001));
        }
    }

    private int someByte() {
        int[] codes = {0xA9, 0xBD, 0x8D, 0x9D, 0xE8, 0xD0, 0x20, 0x60, 0x40, 0x4C, 0x03, 0x42, 0x44, 0x48, 0x68};
        return random.nextInt(3) == 0 ? random.nextInt(256) : codes[random.nextInt(codes.length)];
    }

    private void seeProcessor(PictureMachine machine, int what) {
        within("processor(" + what + ")", machine.processor(what), 0, MOST_OF_PROCESSOR[what]);
    }

    private void seeState(PictureMachine machine, int what) {
        within("state(" + what + ")", machine.state(what), what == 6 ? -1 : 0, MOST_OF_STATE[what]);
    }

    private void seeRun(PictureMachine machine, int cycles) {
        within("run(" + cycles + ")", machine.run(cycles), 0, cycles);
    }

    private void within(String what, int got, int least, int most) {
        if (got < least || got > most) {
            check.due(what, got, least);
        } else {
            check.due(what, got, got);
        }
    }
}
