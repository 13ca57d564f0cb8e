import java.util.function.Consumer;

/** The boundary cases that the document names in its promises, a test for each sentence. */
public final class EdgesOfCallsTest {
    private static final int[] NO_BYTES = {-1, 256, 257, 511, -255, -256, 65536, Integer.MIN_VALUE, Integer.MAX_VALUE};
    private static final int[] NO_PLACES = {-1, 768, 769, 800, 1023, 1024, Integer.MIN_VALUE, Integer.MAX_VALUE};
    private static final int[] NO_REGISTERS = {-1, 32, 33, 64, 768, Integer.MIN_VALUE, Integer.MAX_VALUE};
    private static final int[] NO_SECTORS = {-1, 0, 9, 10, 257, Integer.MIN_VALUE, Integer.MAX_VALUE};
    private static final int[] NO_BYTES_OF_A_SECTOR = {-1, 8, 9, 64, Integer.MIN_VALUE, Integer.MAX_VALUE};
    private static final int[] NO_CYCLES = {-1, 1001, -1000, Integer.MIN_VALUE, Integer.MAX_VALUE};
    private static final int[] NO_LINES = {-1, 0, 13, 14, Integer.MIN_VALUE, Integer.MAX_VALUE};
    private static final int[] NO_DOTS = {-1, 32, 33, Integer.MIN_VALUE, Integer.MAX_VALUE};

    public static void main(String[] args) {
        Sentences sentences = new Sentences();
        memory(sentences);
        others(sentences);
        answers(sentences);
        throwing(sentences);
        sentences.end();
    }

    private static void memory(Sentences sentences) {
        sentences.holds("All as said, memory 0, the disk empty", EdgesOfCallsTest::isNew);
        sentences.holds("Byte a of the memory (0 .. 767) becomes b", EdgesOfCallsTest::pokesItsEnds);
        sentences.holds("poke: IllegalArgumentException when one is not as said", EdgesOfCallsTest::refusesPokes);
        sentences.holds("peek: Byte a of the memory", EdgesOfCallsTest::peeksAtMemoryOnly);
        sentences.holds("peek: IllegalArgumentException when it is not 0 .. 767", EdgesOfCallsTest::refusesPeeks);
    }

    private static void others(Sentences sentences) {
        sentences.holds("Register k is written, as by the processor (WAIT and SEND too)",
            EdgesOfCallsTest::writesAsTheProcessor);
        sentences.holds("IllegalArgumentException when k is not 0 .. 31 or v no byte",
            EdgesOfCallsTest::refusesWrites);
        sentences.holds("Byte i (0 .. 7) of a sector of the disk becomes b", EdgesOfCallsTest::diskHasItsEnds);
        sentences.holds("disk: IllegalArgumentException when one is not as said", EdgesOfCallsTest::refusesDisk);
        sentences.holds("sector: IllegalArgumentException when one is not as said", EdgesOfCallsTest::refusesSector);
        sentences.holds("The stick is v", EdgesOfCallsTest::theStickIsAByte);
        sentences.holds("stick: IllegalArgumentException when it is no byte", EdgesOfCallsTest::refusesSticks);
    }

    private static void answers(Sentences sentences) {
        sentences.holds("So many cycles go by, 0 .. 1000", EdgesOfCallsTest::runsNoneToAThousand);
        sentences.holds("in how many of them the processor did one of its own", EdgesOfCallsTest::countsOwnCycles);
        sentences.holds("(those of an NMI count)", EdgesOfCallsTest::countsCyclesOfAnNmi);
        sentences.holds("run: IllegalArgumentException when it is not as said", EdgesOfCallsTest::refusesRuns);
        sentences.holds("Dot x (0 .. 31) of line y (1 .. 12)", EdgesOfCallsTest::dotsHaveTheirEnds);
        sentences.holds("as it was drawn last (0 before)", EdgesOfCallsTest::dotsAreAsDrawnLast);
        sentences.holds("IndexOutOfBoundsException when there is none", EdgesOfCallsTest::refusesDots);
        sentences.holds("how many cycles of the present instruction (or NMI) are left (0 between them)",
            EdgesOfCallsTest::tellsCyclesLeft);
        sentences.holds("processor: NONE for another what", EdgesOfCallsTest::processorAnswersNone);
        sentences.holds("the line, the cycle that comes next", EdgesOfCallsTest::tellsTheNextCycle);
        sentences.holds("the mode of the present mode line (NONE without one that has rows to come)",
            EdgesOfCallsTest::tellsTheMode);
        sentences.holds("how many of its rows are done (0 then)", EdgesOfCallsTest::tellsTheRowsDone);
        sentences.holds("what the registers 1 to 4 would read", EdgesOfCallsTest::tellsWhatRegistersWouldRead);
        sentences.holds("CHANCE as a whole", EdgesOfCallsTest::tellsChanceAsAWhole);
        sentences.holds("state: NONE for another what", EdgesOfCallsTest::stateAnswersNone);
        sentences.holds("An object is used for at most 512 calls", EdgesOfCallsTest::answersAllItsCalls);
    }

    private static void throwing(Sentences sentences) {
        sentences.holds("A method that throws changes nothing: poke", check -> changesNothing(check, machine -> {
            for (int a : NO_PLACES) {
                thrown(() -> machine.poke(a, 3));
            }
            for (int b : NO_BYTES) {
                thrown(() -> machine.poke(0x80, b));
            }
        }));
        sentences.holds("A method that throws changes nothing: peek", check -> changesNothing(check, machine -> {
            for (int a : NO_PLACES) {
                thrown(() -> machine.peek(a));
            }
            // Nor does it read a register.
            for (int k = 0; k < 10; k++) {
                int a = 768 + k;
                thrown(() -> machine.peek(a));
            }
        }));
        sentences.holds("A method that throws changes nothing: write", check -> changesNothing(check, machine -> {
            for (int k : NO_REGISTERS) {
                thrown(() -> machine.write(k, 3));
            }
            for (int k = 0; k < 24; k++) {
                int register = k;
                thrown(() -> machine.write(register, 256));
                thrown(() -> machine.write(register, -1));
            }
        }));
        sentences.holds("A method that throws changes nothing: disk", check -> changesNothing(check, machine -> {
            for (int sector : NO_SECTORS) {
                thrown(() -> machine.disk(sector, 0, 3));
                thrown(() -> machine.disk(sector, 7, 3));
            }
            for (int i : NO_BYTES_OF_A_SECTOR) {
                thrown(() -> machine.disk(1, i, 3));
                thrown(() -> machine.disk(8, i, 3));
            }
            for (int b : NO_BYTES) {
                thrown(() -> machine.disk(1, 0, b));
            }
        }));
        sentences.holds("A method that throws changes nothing: sector", check -> changesNothing(check, machine -> {
            for (int sector : NO_SECTORS) {
                thrown(() -> machine.sector(sector, 0));
            }
            for (int i : NO_BYTES_OF_A_SECTOR) {
                thrown(() -> machine.sector(1, i));
            }
        }));
        sentences.holds("A method that throws changes nothing: stick", check -> changesNothing(check, machine -> {
            for (int v : NO_BYTES) {
                thrown(() -> machine.stick(v));
            }
        }));
        sentences.holds("A method that throws changes nothing: run", check -> changesNothing(check, machine -> {
            for (int cycles : NO_CYCLES) {
                thrown(() -> machine.run(cycles));
            }
        }));
        sentences.holds("A method that throws changes nothing: dot", check -> changesNothing(check, machine -> {
            for (int y : NO_LINES) {
                thrown(() -> machine.dot(y, 0));
            }
            for (int x : NO_DOTS) {
                thrown(() -> machine.dot(1, x));
            }
        }));
    }

    /** The simple name of what a call throws, or nothing. */
    private static String thrown(Runnable call) {
        try {
            call.run();
            return "nothing";
        } catch (RuntimeException e) {
            return e.getClass().getSimpleName();
        }
    }

    private static void refuses(Check check, String what, Runnable call) {
        check.due(what + " throws", thrown(call), "IllegalArgumentException");
    }

    private static void takes(Check check, String what, Runnable call) {
        check.due(what + " throws", thrown(call), "nothing");
    }

    /** A machine of which each register, the stick and the drive show in what is seen later. */
    private static PictureMachine prepared(int... program) {
        PictureMachine machine = Machines.withProgram(program);
        // The NMI counts at 0xB0.
        Machines.pokeAll(machine, 0x20, 0xE6, 0xB0, 0x40);
        Machines.pokeAll(machine, 760, 0x20, 0x00);
        Machines.pokeAll(machine, 0x40, 0xC2, 0x80, 0x00, 0x83, 0x41, 0x40, 0x00);
        Machines.pokeAll(machine, 0x80, 1, 2, 3, 4, 5, 6, 7, 8, 27, 228, 27, 228, 27, 228, 27, 228);
        Machines.pokeAll(machine, 0x104, 27, 228, 78, 177, 85, 170);
        Machines.pokeAll(machine, 0x211, 129, 255, 3, 60, 195);
        int[] registers = {0, 1, 2, 4, 6, 8, 9, 10, 11, 12, 13, 14, 15, 16, 17, 21};
        int[] values = {3, 1, 0x40, 2, 192, 90, 91, 92, 93, 50, 60, 2, 12, 1, 1, 77};
        for (int i = 0; i < registers.length; i++) {
            machine.write(registers[i], values[i]);
        }
        machine.stick(99);
        machine.disk(1, 0, 200);
        machine.disk(8, 7, 100);
        Machines.sendWithSum(machine, 49, 82, 1);
        Machines.send(machine, 49, 82);
        return machine;
    }

    /** Such a machine, whose program puts what the registers 0 .. 9 read at 0xA0 on, in the midst of a frame. */
    private static PictureMachine busy() {
        PictureMachine machine = prepared(
            0xA2, 0x00, 0xBD, 0x00, 0x03, 0x9D, 0xA0, 0x00, 0xE8, 0xE0, 0x0A, 0xD0, 0xF5, 0x4C, 0x00, 0x02);
        machine.run(100);
        machine.write(18, 0);
        return machine;
    }

    private static String seenFully(PictureMachine machine) {
        StringBuilder seen = new StringBuilder(Machines.seen(machine));
        for (int a = 0x80; a <= 0xB0; a++) {
            seen.append(' ').append(machine.peek(a));
        }
        for (int y = 1; y <= 5; y++) {
            for (int x = 0; x < 32; x += 3) {
                seen.append(' ').append(machine.dot(y, x));
            }
        }
        return seen.toString();
    }

    /** After the calls that are refused, all is and goes on as in a machine without them. */
    private static void changesNothing(Check check, Consumer<PictureMachine> refusedCalls) {
        PictureMachine tried = busy();
        PictureMachine twin = busy();
        refusedCalls.accept(tried);
        check.due("what is seen", seenFully(tried), seenFully(twin));
        check.due("run(700)", tried.run(700), twin.run(700));
        check.due("what is seen later", seenFully(tried), seenFully(twin));
    }

    private static void isNew(Check check) {
        for (int from = 0; from < 768; from += 384) {
            PictureMachine machine = new PictureMachine();
            for (int a = from; a < from + 384; a++) {
                check.due("peek(" + a + ")", machine.peek(a), 0);
            }
        }
        PictureMachine machine = new PictureMachine();
        for (int sector = 1; sector <= 8; sector++) {
            for (int i = 0; i < 8; i++) {
                check.due("sector(" + sector + ", " + i + ")", machine.sector(sector, i), 0);
            }
        }
        int[] state = {0, 0, 0, 0, 0, 0, -1, 0, 0, 0, 0, 0, 0, 0, 511, 0, 0, 0, 0, 0, 0};
        for (int what = 0; what < state.length; what++) {
            check.due("state(" + what + ")", machine.state(what), state[what]);
        }
        int[] processor = {512, 0, 0, 0, 255, 0, 0, 0, 0, 0};
        for (int what = 0; what < processor.length; what++) {
            check.due("processor(" + what + ")", machine.processor(what), processor[what]);
        }
    }

    private static void pokesItsEnds(Check check) {
        PictureMachine machine = new PictureMachine();
        for (int a : new int[] {0, 255, 256, 511, 512, 766, 767}) {
            for (int b : new int[] {255, 1, 128, 0}) {
                machine.poke(a, b);
                check.due("peek(" + a + ")", machine.peek(a), b);
            }
        }
        machine.poke(766, 1);
        check.due("peek(767) beside it", machine.peek(767), 0);
        check.due("peek(765) beside it", machine.peek(765), 0);
    }

    private static void refusesPokes(Check check) {
        PictureMachine machine = new PictureMachine();
        for (int a : NO_PLACES) {
            refuses(check, "poke(" + a + ", 0)", () -> machine.poke(a, 0));
            refuses(check, "poke(" + a + ", 256)", () -> machine.poke(a, 256));
        }
        for (int b : NO_BYTES) {
            refuses(check, "poke(0, " + b + ")", () -> machine.poke(0, b));
            refuses(check, "poke(767, " + b + ")", () -> machine.poke(767, b));
        }
    }

    private static void peeksAtMemoryOnly(Check check) {
        PictureMachine machine = Machines.withProgram(0xA9, 77, 0x8D, 0xFF, 0x02, 0x85, 0x00);
        machine.run(9);
        check.due("peek(767)", machine.peek(767), 77);
        check.due("peek(0)", machine.peek(0), 77);
        check.due("peek(512)", machine.peek(512), 0xA9);
    }

    private static void refusesPeeks(Check check) {
        PictureMachine machine = new PictureMachine();
        for (int a : NO_PLACES) {
            refuses(check, "peek(" + a + ")", () -> machine.peek(a));
        }
        takes(check, "peek(0)", () -> machine.peek(0));
        takes(check, "peek(767)", () -> machine.peek(767));
    }

    private static void writesAsTheProcessor(Check check) {
        for (int k = 0; k < 32; k++) {
            // The timer, which steps behind the processor in its cycle, takes PERIOD and START at once.
            if (k == 21 || k == 22) {
                continue;
            }
            PictureMachine byProcessor = prepared(0xA9, 130, 0x8D, k, 0x03, 0x4C, 0x05, 0x02);
            PictureMachine byCall = prepared(0xA9, 130, 0x8D, 0xF0, 0x01, 0x4C, 0x05, 0x02);
            byProcessor.run(7);
            byCall.run(7);
            check.due("PC behind STA", byCall.processor(Machines.PC), 517);
            byCall.write(k, 130);
            byCall.poke(515, k);
            byCall.poke(516, 0x03);
            check.due("register " + k + " at once", seenFully(byProcessor), seenFully(byCall));
            byProcessor.run(500);
            byCall.run(500);
            check.due("register " + k, seenFully(byProcessor), seenFully(byCall));
        }
        PictureMachine machine = new PictureMachine();
        machine.write(5, 0);
        check.due("held", machine.processor(Machines.HELD), 1);
        machine.write(23, 49);
        check.due("gathered", machine.state(Machines.GATHERED), 1);
    }

    private static void refusesWrites(Check check) {
        PictureMachine machine = new PictureMachine();
        for (int k : NO_REGISTERS) {
            refuses(check, "write(" + k + ", 0)", () -> machine.write(k, 0));
            refuses(check, "write(" + k + ", 256)", () -> machine.write(k, 256));
        }
        for (int k = 0; k < 32; k++) {
            int register = k;
            refuses(check, "write(" + k + ", 256)", () -> machine.write(register, 256));
            refuses(check, "write(" + k + ", - 1)", () -> machine.write(register, -1));
            takes(check, "write(" + k + ", 0)", () -> machine.write(register, 0));
            takes(check, "write(" + k + ", 255)", () -> machine.write(register, 255));
        }
        for (int v : NO_BYTES) {
            refuses(check, "write(31, " + v + ")", () -> machine.write(31, v));
        }
    }

    private static void diskHasItsEnds(Check check) {
        PictureMachine machine = new PictureMachine();
        for (int sector : new int[] {1, 8}) {
            for (int i : new int[] {0, 7}) {
                for (int b : new int[] {255, 1, 0, 128}) {
                    machine.disk(sector, i, b);
                    check.due("sector(" + sector + ", " + i + ")", machine.sector(sector, i), b);
                }
            }
        }
        check.due("sector(2, 0) behind sector(1, 7)", machine.sector(2, 0), 0);
        check.due("sector(7, 7) before sector(8, 0)", machine.sector(7, 7), 0);
    }

    private static void refusesDisk(Check check) {
        PictureMachine machine = new PictureMachine();
        for (int sector : NO_SECTORS) {
            refuses(check, "disk(" + sector + ", 0, 0)", () -> machine.disk(sector, 0, 0));
        }
        for (int i : NO_BYTES_OF_A_SECTOR) {
            refuses(check, "disk(1, " + i + ", 0)", () -> machine.disk(1, i, 0));
            refuses(check, "disk(8, " + i + ", 0)", () -> machine.disk(8, i, 0));
        }
        for (int b : NO_BYTES) {
            refuses(check, "disk(1, 0, " + b + ")", () -> machine.disk(1, 0, b));
        }
        refuses(check, "disk(0, 8, 256)", () -> machine.disk(0, 8, 256));
    }

    private static void refusesSector(Check check) {
        PictureMachine machine = new PictureMachine();
        for (int sector : NO_SECTORS) {
            refuses(check, "sector(" + sector + ", 0)", () -> machine.sector(sector, 0));
        }
        for (int i : NO_BYTES_OF_A_SECTOR) {
            refuses(check, "sector(1, " + i + ")", () -> machine.sector(1, i));
            refuses(check, "sector(8, " + i + ")", () -> machine.sector(8, i));
        }
        refuses(check, "sector(0, 8)", () -> machine.sector(0, 8));
    }

    private static void theStickIsAByte(Check check) {
        PictureMachine machine = Machines.withProgram(0xAD, 0x09, 0x03, 0x4C, 0x00, 0x02);
        machine.run(24);
        check.due("the stick at first", machine.processor(Machines.A), 0);
        for (int v : new int[] {255, 0, 128, 1}) {
            machine.stick(v);
            machine.run(24);
            check.due("the stick", machine.processor(Machines.A), v);
        }
    }

    private static void refusesSticks(Check check) {
        PictureMachine machine = new PictureMachine();
        for (int v : NO_BYTES) {
            refuses(check, "stick(" + v + ")", () -> machine.stick(v));
        }
    }

    private static void runsNoneToAThousand(Check check) {
        PictureMachine machine = Machines.idle();
        check.due("run(0)", machine.run(0), 0);
        check.due("the cycle after run(0)", machine.state(Machines.CYCLE), 0);
        machine.run(1);
        check.due("the cycle after run(1)", machine.state(Machines.CYCLE), 1);
        machine = Machines.idle();
        machine.run(1000);
        check.due("the frame after run(1000)", machine.state(Machines.FRAME), 2);
        check.due("the line after run(1000)", machine.state(Machines.LINE), 9);
        check.due("the cycle after run(1000)", machine.state(Machines.CYCLE), 16);
    }

    private static void countsOwnCycles(Check check) {
        PictureMachine machine = Machines.idle();
        check.due("run(1000) with two taken in each line", machine.run(1000), 41 * 22 + 16);
        check.due("run(1000), jammed after two", new PictureMachine().run(1000), 2);
        machine = Machines.idle();
        machine.write(5, 0);
        check.due("run(22), held", machine.run(22), 0);
        check.due("run(2), no more", machine.run(2), 2);
    }

    private static void countsCyclesOfAnNmi(Check check) {
        // The NMI goes to a code that jams after two.
        PictureMachine machine = Machines.idle();
        machine.write(6, 64);
        machine.write(5, 0);
        Machines.runTo(machine, 13, 0);
        machine.write(5, 0);
        Machines.runTo(machine, 13, 22);
        int left = machine.processor(Machines.LEFT);
        check.due("run(100)", machine.run(100), left + 7 + 2);
    }

    private static void refusesRuns(Check check) {
        PictureMachine machine = new PictureMachine();
        for (int cycles : NO_CYCLES) {
            refuses(check, "run(" + cycles + ")", () -> machine.run(cycles));
        }
        takes(check, "run(0)", () -> machine.run(0));
        takes(check, "run(1000)", () -> machine.run(1000));
    }

    private static void dotsHaveTheirEnds(Check check) {
        // Player 0 is one dot, in each line in another column.
        for (int column : new int[] {0, 31}) {
            PictureMachine machine = Machines.idle();
            machine.write(12, 50);
            machine.write(19, 128);
            machine.write(14, column);
            machine.run(384);
            for (int y = 1; y <= 12; y += 11) {
                for (int x = 0; x < 32; x++) {
                    check.due("dot(" + y + ", " + x + ")", machine.dot(y, x), x == column ? 50 : 0);
                }
            }
        }
    }

    private static void dotsAreAsDrawnLast(Check check) {
        PictureMachine machine = Machines.idle();
        machine.write(8, 33);
        for (int y = 1; y <= 12; y++) {
            Machines.runTo(machine, y, 23);
            check.due("dot(" + y + ", 0) before its line's end", machine.dot(y, 0), 0);
            machine.run(1);
            check.due("dot(" + y + ", 0) at its line's end", machine.dot(y, 0), 33);
        }
        machine.write(8, 44);
        Machines.runTo(machine, 12, 23);
        check.due("dot(12, 31) of the frame before", machine.dot(12, 31), 33);
        check.due("dot(11, 31) of this frame", machine.dot(11, 31), 44);
        machine.run(1);
        check.due("dot(12, 31) of this frame", machine.dot(12, 31), 44);
    }

    private static void refusesDots(Check check) {
        PictureMachine machine = new PictureMachine();
        for (int y : NO_LINES) {
            check.due("dot(" + y + ", 0) throws", thrown(() -> machine.dot(y, 0)), "IndexOutOfBoundsException");
            check.due("dot(" + y + ", 32) throws", thrown(() -> machine.dot(y, 32)), "IndexOutOfBoundsException");
        }
        for (int x : NO_DOTS) {
            check.due("dot(1, " + x + ") throws", thrown(() -> machine.dot(1, x)), "IndexOutOfBoundsException");
            check.due("dot(12, " + x + ") throws", thrown(() -> machine.dot(12, x)), "IndexOutOfBoundsException");
        }
        takes(check, "dot(1, 0)", () -> machine.dot(1, 0));
        takes(check, "dot(12, 31)", () -> machine.dot(12, 31));
    }

    private static void tellsCyclesLeft(Check check) {
        PictureMachine machine = Machines.withProgram(0x20, 0x80, 0x00);
        int[] due = {0, 5, 4, 3, 2, 1, 0, 1, 0, 0};
        for (int i = 0; i < due.length; i++) {
            check.due("left after " + i + " cycles: JSR, and a code that jams", machine.processor(9), due[i]);
            machine.run(1);
        }
        machine = Machines.withProgram(0xEA, 0xEA, 0x4C, 0x00, 0x02);
        machine.write(6, 64);
        Machines.runTo(machine, 13, 8);
        for (int left : new int[] {0, 6, 5, 4, 3, 2, 1, 0}) {
            check.due("left of the NMI", machine.processor(9), left);
            machine.run(1);
        }
        // The cycles 20 and 21, which are taken, leave them as they are.
        machine = new PictureMachine();
        Machines.pokeNops(machine, 512, 9);
        Machines.pokeAll(machine, 521, 0xE6, 0x40);
        machine.run(18);
        for (int left : new int[] {0, 4, 3, 3, 3, 2, 1}) {
            check.due("left of INC before cycle " + machine.state(Machines.CYCLE), machine.processor(9), left);
            machine.run(1);
        }
    }

    private static void processorAnswersNone(Check check) {
        PictureMachine machine = busy();
        for (int what : new int[] {-1, 10, 11, 255, 256, Integer.MIN_VALUE, Integer.MAX_VALUE}) {
            check.due("processor(" + what + ")", machine.processor(what), PictureMachine.NONE);
        }
        check.due("processor(0) is not NONE", machine.processor(0) == PictureMachine.NONE ? 1 : 0, 0);
        check.due("processor(9) is not NONE", machine.processor(9) == PictureMachine.NONE ? 1 : 0, 0);
    }

    private static void tellsTheNextCycle(Check check) {
        PictureMachine machine = Machines.idle();
        for (int time = 0; time < 100; time++) {
            check.due("the line at " + time, machine.state(1), time / 24);
            check.due("the cycle at " + time, machine.state(2), time % 24);
            machine.run(1);
        }
        machine.run(383 - 100);
        check.due("the frame before its end", machine.state(0), 0);
        check.due("the line before the frame's end", machine.state(1), 15);
        machine.run(1);
        check.due("the frame behind it", machine.state(0), 1);
        check.due("the line behind it", machine.state(1), 0);
        check.due("the cycle behind it", machine.state(2), 0);
    }

    private static void tellsTheMode(Check check) {
        for (int mode = 0; mode < 16; mode++) {
            int rows = mode == 2 ? 4 : mode == 4 ? 2 : 1;
            PictureMachine machine = Lines.withList(0x40, 0x80 | mode, 0x40, 0x00);
            machine.run(1);
            check.due("mode " + mode + ", before its byte", machine.state(6), PictureMachine.NONE);
            machine.run(1);
            check.due("mode " + mode + ", behind its byte", machine.state(6), mode);
            Machines.runTo(machine, rows, 23);
            check.due("mode " + mode + ", in its last row", machine.state(6), mode);
            machine.run(1);
            check.due("mode " + mode + ", behind its rows", machine.state(6), PictureMachine.NONE);
        }
    }

    private static void tellsTheRowsDone(Check check) {
        PictureMachine machine = Lines.withList(0x40, 0x70, 0x05);
        for (int row = 0; row < 8; row++) {
            check.due("rows done, of eight", machine.state(7), row);
            machine.run(24);
        }
        check.due("rows done behind all", machine.state(7), 0);
        check.due("the mode behind all", machine.state(6), PictureMachine.NONE);
        machine.run(24);
        check.due("rows done behind a mode line of one", machine.state(7), 0);
    }

    private static void tellsWhatRegistersWouldRead(Check check) {
        for (int k = 1; k <= 4; k++) {
            PictureMachine machine = PlayersTest.overRow(3, 0b0110_0000, 0b1000_0000);
            machine.poke(0x43, 0x85);
            machine.write(15, 2);
            machine.write(6, 128);
            Machines.pokeAll(machine, 0x2A0, 0xAD, k, 0x03, 0x4C, 0xA0, 0x02);
            Machines.pokeAll(machine, 760, 0xA0, 0x02);
            machine.run(24 * 5);
            int[] due = {128, 6, 4, 1};
            check.due("state(" + (9 + k) + ")", machine.state(9 + k), due[k - 1]);
            check.due("register " + k + " as read", machine.processor(Machines.A), due[k - 1]);
        }
    }

    private static void tellsChanceAsAWhole(Check check) {
        PictureMachine machine = Machines.idle();
        check.due("state(14)", machine.state(14), 511);
        machine.run(6);
        check.due("state(14) with bit 8", machine.state(14), 263);
    }

    private static void stateAnswersNone(Check check) {
        PictureMachine machine = busy();
        for (int what : new int[] {-1, 21, 22, 255, 256, Integer.MIN_VALUE, Integer.MAX_VALUE}) {
            check.due("state(" + what + ")", machine.state(what), PictureMachine.NONE);
        }
        check.due("state(0) is not NONE", machine.state(0) == PictureMachine.NONE ? 1 : 0, 0);
        check.due("state(20) is not NONE", machine.state(20) == PictureMachine.NONE ? 1 : 0, 0);
    }

    private static void answersAllItsCalls(Check check) {
        PictureMachine machine = new PictureMachine();
        for (int call = 1; call <= 511; call++) {
            machine.run(1000);
        }
        check.due("the frame, as the 512th call", machine.state(Machines.FRAME), 511_000 / 384);
    }
}
