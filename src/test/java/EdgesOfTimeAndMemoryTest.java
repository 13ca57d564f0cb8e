/** The boundary cases that the document names for time and memory, a test for each sentence. */
public final class EdgesOfTimeAndMemoryTest {
    public static void main(String[] args) {
        Sentences sentences = new Sentences();
        sentences.holds("24 are a LINE (0 .. 23)", EdgesOfTimeAndMemoryTest::aLineHas24Cycles);
        sentences.holds("16 lines a FRAME (0 .. 15)", EdgesOfTimeAndMemoryTest::aFrameHas16Lines);
        sentences.holds("it begins with cycle 0 of line 0 of frame 0", EdgesOfTimeAndMemoryTest::timeBegins);
        sentences.holds("in this order: the DISPLAY does what is said for the cycle, the PROCESSOR does one",
            EdgesOfTimeAndMemoryTest::theDisplayIsBeforeTheProcessor);
        sentences.holds("the PROCESSOR does one cycle of its own [..], the chip of CHANCE steps",
            EdgesOfTimeAndMemoryTest::theProcessorIsBeforeChance);
        sentences.holds("at cycle 23 then the line is drawn", EdgesOfTimeAndMemoryTest::theLineIsDrawnLast);
        sentences.holds("at cycle 23 then [..] the drive may send", EdgesOfTimeAndMemoryTest::theDriveSendsLast);
        sentences.holds("unless the display took this one for a fetch, or it is held or jammed",
            EdgesOfTimeAndMemoryTest::theProcessorLosesCycles);
        sentences.holds("MEMORY: bytes 0 .. 767", EdgesOfTimeAndMemoryTest::memoryHasItsEnds);
        sentences.holds("768 + k, k = 0 .. 31, are REGISTERS", EdgesOfTimeAndMemoryTest::registersHaveTheirEnds);
        sentences.holds("from 800 on it is 255", EdgesOfTimeAndMemoryTest::aboveTheRegistersIs255);
        sentences.holds("what is written there is lost", EdgesOfTimeAndMemoryTest::aboveTheRegistersAllIsLost);
        sentences.holds("Addresses are taken modulo 1024: reading", EdgesOfTimeAndMemoryTest::readsModulo1024);
        sentences.holds("Addresses are taken modulo 1024: writing", EdgesOfTimeAndMemoryTest::writesModulo1024);
        sentences.end();
    }

    private static void time(Check check, PictureMachine machine, int frame, int line, int cycle) {
        check.due("the frame", machine.state(Machines.FRAME), frame);
        check.due("the line", machine.state(Machines.LINE), line);
        check.due("the cycle", machine.state(Machines.CYCLE), cycle);
    }

    private static void aLineHas24Cycles(Check check) {
        PictureMachine machine = Machines.idle();
        machine.run(23);
        time(check, machine, 0, 0, 23);
        machine.run(1);
        time(check, machine, 0, 1, 0);
        machine.run(24);
        time(check, machine, 0, 2, 0);
    }

    private static void aFrameHas16Lines(Check check) {
        PictureMachine machine = Machines.idle();
        machine.run(15 * 24 + 23);
        time(check, machine, 0, 15, 23);
        machine.run(1);
        time(check, machine, 1, 0, 0);
        machine.run(384);
        time(check, machine, 2, 0, 0);
    }

    private static void timeBegins(Check check) {
        time(check, new PictureMachine(), 0, 0, 0);
    }

    private static void theDisplayIsBeforeTheProcessor(Check check) {
        // 42 turns of 7 cycles end with cycle 7 of line 13: the NMI that cycle 8 requests begins in that cycle.
        PictureMachine machine = Machines.withProgram(0xEA, 0xEA, 0x4C, 0x00, 0x02);
        machine.write(6, 64);
        Machines.runTo(machine, 13, 8);
        check.due("cycles left before cycle 8", machine.processor(Machines.LEFT), 0);
        machine.run(1);
        check.due("cycles left of the NMI after cycle 8", machine.processor(Machines.LEFT), 6);
        // The processor turns the display on in cycle 0 of line 1, which is the 23rd of its own, or in cycle 1.
        machine = Machines.withProgram(0xA9, 1, 0x4C, 0x05, 0x02);
        Machines.pokeNops(machine, 517, 7);
        Machines.pokeAll(machine, 524, 0x8D, 0x00, 0x03);
        machine.run(26);
        check.due("L, bit 0 set in cycle 0", machine.state(Machines.L), 1);
        machine = Machines.withProgram(0xA9, 1);
        Machines.pokeNops(machine, 514, 9);
        Machines.pokeAll(machine, 523, 0x8D, 0x00, 0x03);
        machine.run(26);
        check.due("PC behind STA", machine.processor(Machines.PC), 526);
        check.due("L, bit 0 set in cycle 1", machine.state(Machines.L), 0);
    }

    private static void theProcessorIsBeforeChance(Check check) {
        PictureMachine machine = Machines.withProgram(0xAD, 0x05, 0x03);
        machine.run(3);
        int before = machine.state(Machines.CHANCE) & 255;
        machine.run(1);
        check.due("CHANCE as read in cycle 3", machine.processor(Machines.A), before);
        check.due("CHANCE behind it", machine.state(Machines.CHANCE), 31);
    }

    private static void theLineIsDrawnLast(Check check) {
        // 19 NOP, LDA and STA end with the 44th own cycle, which is cycle 23 of line 1.
        PictureMachine machine = new PictureMachine();
        Machines.pokeNops(machine, 512, 19);
        Machines.pokeAll(machine, 512 + 19, 0xA9, 7, 0x8D, 0x08, 0x03);
        Machines.runTo(machine, 1, 23);
        check.due("dot(1, 0) before cycle 23", machine.dot(1, 0), 0);
        machine.run(1);
        check.due("dot(1, 0), its colour written in cycle 23", machine.dot(1, 0), 7);
    }

    private static void theDriveSendsLast(Check check) {
        // 20 NOP and LDA of register 7 end with cycle 23 of line 1: the second byte comes in at that line's end.
        PictureMachine machine = new PictureMachine();
        Machines.pokeNops(machine, 512, 20);
        Machines.pokeAll(machine, 512 + 20, 0xAD, 0x07, 0x03);
        Machines.sendWithSum(machine, 49, 82, 1);
        Machines.runTo(machine, 1, 23);
        check.due("waiting before cycle 23", machine.state(Machines.WAITING), 10);
        machine.run(1);
        check.due("A", machine.processor(Machines.A), 65);
        check.due("come in after cycle 23", machine.state(Machines.CAME_IN), 1);
        check.due("waiting after cycle 23", machine.state(Machines.WAITING), 9);
    }

    private static void theProcessorLosesCycles(Check check) {
        PictureMachine machine = Machines.idle();
        machine.write(0, 2);
        check.due("own in a cycle with a fetch", machine.run(1), 0);
        check.due("own in a cycle without one", machine.run(1), 1);
        machine.write(5, 0);
        check.due("own when held", machine.run(1), 0);
        PictureMachine jammed = new PictureMachine();
        jammed.run(2);
        check.due("own when jammed", jammed.run(1), 0);
    }

    private static int loaded(PictureMachine machine, int address) {
        Machines.pokeAll(machine, Machines.PROGRAM, 0xAD, address & 255, address >> 8);
        machine.run(4);
        return machine.processor(Machines.A);
    }

    private static PictureMachine afterStore(int value, int address) {
        PictureMachine machine = Machines.withProgram(0xA9, value, 0x8D, address & 255, address >> 8);
        machine.run(6);
        return machine;
    }

    private static void memoryHasItsEnds(Check check) {
        check.due("peek(0)", afterStore(77, 0).peek(0), 77);
        check.due("peek(767)", afterStore(78, 767).peek(767), 78);
        PictureMachine machine = new PictureMachine();
        machine.poke(767, 79);
        check.due("LDA 767", loaded(machine, 767), 79);
        machine = new PictureMachine();
        machine.poke(0, 80);
        check.due("LDA 0", loaded(machine, 0), 80);
        // Behind 767 comes the line: 11 NOP are the own cycles of line 0.
        machine = new PictureMachine();
        Machines.pokeNops(machine, 512, 11);
        Machines.pokeAll(machine, 523, 0xAD, 0x00, 0x03);
        machine.run(28);
        check.due("LDA 768", machine.processor(Machines.A), 1);
    }

    private static void registersHaveTheirEnds(Check check) {
        check.due("bytes gathered after STA 768 + 23", afterStore(49, 791).state(Machines.GATHERED), 1);
        check.due("held after STA 768 + 5", afterStore(0, 773).processor(Machines.HELD), 1);
        PictureMachine first = afterStore(2, 768);
        first.poke(1, 44);
        Machines.runTo(first, 1, 1);
        check.due("SHAPE 0, fetched after STA 768", first.state(Machines.SHAPE_0), 44);
        PictureMachine stick = new PictureMachine();
        stick.stick(99);
        check.due("LDA 768 + 9", loaded(stick, 777), 99);
        check.due("LDA 768 + 31", loaded(new PictureMachine(), 799), 255);
        check.due("what is seen after STA 768 + 31", Machines.seen(afterStore(3, 799)),
            Machines.seen(afterStore(3, 0x140)));
    }

    private static void aboveTheRegistersIs255(Check check) {
        for (int address : new int[] {800, 801, 831, 832, 895, 1022, 1023}) {
            check.due("LDA " + address, loaded(new PictureMachine(), address), 255);
        }
        // As a code, 255 jams.
        PictureMachine machine = Machines.withProgram(0x4C, 0x20, 0x03);
        machine.run(5);
        check.due("jammed at 800", machine.processor(Machines.JAMMED), 1);
    }

    private static int[] storer(int from) {
        return new int[] {
            0xA2, 0, 0xA9, 3, 0x9D, from & 255, from >> 8, 0xE8, 0xE0, 224, 0xD0, 0xF8, 0x4C, 0x0C, 0x02,
        };
    }

    /** A machine that has stored 3 in 224 places from the one said on. */
    private static PictureMachine storing(int from) {
        PictureMachine machine = Machines.withProgram(storer(from));
        machine.run(1000);
        machine.run(1000);
        machine.run(1000);
        return machine;
    }

    private static void aboveTheRegistersAllIsLost(Check check) {
        PictureMachine lost = storing(800);
        PictureMachine kept = storing(0x10);
        check.due("X, the stores all done", lost.processor(Machines.X), 224);
        check.due("peek(16 + 223) of the other", kept.peek(0x10 + 223), 3);
        for (int a = 0; a < 384; a++) {
            check.due("peek(" + a + ")", lost.peek(a), 0);
        }
        for (int what = 0; what <= 20; what++) {
            check.due("state(" + what + ")", lost.state(what), kept.state(what));
        }
        PictureMachine other = storing(800);
        for (int a = 384; a < 768; a++) {
            int due = a < 512 || a >= 512 + 15 ? 0 : storer(800)[a - 512];
            check.due("peek(" + a + ")", other.peek(a), due);
        }
        PictureMachine again = Machines.withProgram(
            0xA9, 3, 0x8D, 0x20, 0x03, 0x8D, 0xFF, 0x03, 0xAD, 0x20, 0x03, 0xAA, 0xAD, 0xFF, 0x03);
        again.run(24);
        check.due("800 as read behind a store", again.processor(Machines.X), 255);
        check.due("1023 as read behind a store", again.processor(Machines.A), 255);
    }

    private static void readsModulo1024(Check check) {
        int[] addresses = {1024, 1024 + 767, 2048, 0xFC00, 0xFC00 + 767};
        for (int address : addresses) {
            PictureMachine machine = new PictureMachine();
            machine.poke(address % 1024, 55);
            check.due("LDA " + address, loaded(machine, address), 55);
        }
        PictureMachine stick = new PictureMachine();
        stick.stick(99);
        check.due("LDA 1024 + 777", loaded(stick, 1024 + 777), 99);
        check.due("LDA 65535", loaded(new PictureMachine(), 65535), 255);
        PictureMachine machine = Machines.withProgram(0xA2, 1, 0xBD, 0xFF, 0x03);
        machine.poke(0, 66);
        machine.run(6);
        check.due("LDA 1023 + X, X = 1", machine.processor(Machines.A), 66);
        machine = Machines.withProgram(0xA2, 255, 0xBD, 0xFF, 0xFF);
        machine.poke(254, 67);
        machine.run(6);
        check.due("LDA 65535 + X, X = 255", machine.processor(Machines.A), 67);
        machine = Machines.withProgram(0xA2, 255, 0xBD, 0x00, 0x03);
        machine.run(6);
        check.due("LDA 768 + X, X = 255, is 1023", machine.processor(Machines.A), 255);
    }

    private static void writesModulo1024(Check check) {
        check.due("peek(0) after STA 1024", afterStore(55, 1024).peek(0), 55);
        check.due("peek(767) after STA 64512 + 767", afterStore(56, 0xFC00 + 767).peek(767), 56);
        check.due("SHAPE 0 after STA 1024 + 787", afterStore(57, 1024 + 787).state(Machines.SHAPE_0), 57);
        check.due("peek(1) after STA 1023 + X, X = 2", afterStoreX(58, 2, 1023).peek(1), 58);
        check.due("peek(254) after STA 65535 + X, X = 255", afterStoreX(59, 255, 65535).peek(254), 59);
        PictureMachine machine = Machines.withProgram(0xA2, 60, 0x8E, 0x10, 0x04);
        machine.run(6);
        check.due("peek(16) after STX 1024 + 16", machine.peek(16), 60);
    }

    private static PictureMachine afterStoreX(int value, int x, int address) {
        PictureMachine machine = Machines.withProgram(0xA9, value, 0xA2, x, 0x9D, address & 255, address >> 8);
        machine.run(9);
        return machine;
    }
}
