/** The boundary cases that the document names for the registers, chance and the timer, a test for each sentence. */
public final class EdgesOfRegistersTest {
    public static void main(String[] args) {
        Sentences sentences = new Sentences();
        sentences.holds("REGISTERS, written (value v), all 0 at first", EdgesOfRegistersTest::allAreZeroAtFirst);
        sentences.holds("WAIT: the processor is held until a cycle 22 has begun",
            EdgesOfRegistersTest::isHeldUntil22);
        sentences.holds("CLEAR: the CAUSES are 0", EdgesOfRegistersTest::clearsWhateverIsWritten);
        sentences.holds("HIT: all collisions are 0", EdgesOfRegistersTest::forgetsAllCollisions);
        sentences.holds("START: the timer is PERIOD, its sign 0", EdgesOfRegistersTest::startsTheTimer);
        sentences.holds("Others: lost", EdgesOfRegistersTest::othersAreLost);
        sentences.holds("0 the line", EdgesOfRegistersTest::readsTheLine);
        sentences.holds("CHANCE (its lowest 8 bits)", EdgesOfRegistersTest::readsTheLowestBitsOfChance);
        sentences.holds("the timer's sign, which is 0 then", EdgesOfRegistersTest::takesTheSign);
        sentences.holds("the byte that came in, which is taken", EdgesOfRegistersTest::takesTheByte);
        sentences.holds("(0 without one)", EdgesOfRegistersTest::readsZeroWithoutByte);
        sentences.holds("8 whether one has come in", EdgesOfRegistersTest::tellsWhetherOneHasComeIn);
        sentences.holds("9 the STICK", EdgesOfRegistersTest::readsTheStick);
        sentences.holds("Others: 255", EdgesOfRegistersTest::othersRead255);
        sentences.holds("a row of 9 bits, 511 at first", EdgesOfRegistersTest::chanceBegins);
        sentences.holds("r >> 1 with bit 8 being bit 0 xor bit 4 of r", EdgesOfRegistersTest::chanceShifts);
        sentences.holds("in each cycle it becomes", EdgesOfRegistersTest::chanceShiftsInEachCycle);
        sentences.holds("THE TIMER then is one less", EdgesOfRegistersTest::theTimerCountsDown);
        sentences.holds("below 0 it is PERIOD again, and its sign is 1", EdgesOfRegistersTest::theTimerBeginsAgain);
        sentences.holds("below 0 it is PERIOD again: PERIOD 0", EdgesOfRegistersTest::theTimerWithoutPeriod);
        sentences.holds("(It is 0 at first.)", EdgesOfRegistersTest::theTimerIsZeroAtFirst);
        sentences.end();
    }

    /** The answer of LDA M at register k, which ends with the fourth cycle. */
    private static int read(PictureMachine machine, int k) {
        Machines.pokeAll(machine, Machines.PROGRAM, 0xAD, k, 0x03);
        machine.run(4);
        return machine.processor(Machines.A);
    }

    private static void allAreZeroAtFirst(Check check) {
        PictureMachine machine = Machines.idle();
        machine.poke(0, 0x83);
        Machines.pokeAll(machine, 256, 255, 255);
        check.due("own cycles of a frame: no fetches, no NMI", machine.run(384), 16 * 22);
        check.due("dot(1, 0)", machine.dot(1, 0), 0);
        check.due("dot(12, 31)", machine.dot(12, 31), 0);
        check.due("L", machine.state(Machines.L), 0);
        check.due("SHAPE 0", machine.state(Machines.SHAPE_0), 0);
        check.due("SHAPE 1", machine.state(Machines.SHAPE_1), 0);
        check.due("CAUSES", machine.state(Machines.CAUSES), 0);
        check.due("met", machine.state(Machines.MET), 0);
        for (int i = 0; i < 3; i++) {
            machine.run(1);
            check.due("the timer, PERIOD being 0", machine.state(Machines.TIMER), 0);
        }
        check.due("gathered", machine.state(Machines.GATHERED), 0);
        // LETTERS and SHAPES, too: letter 0 is at 0, and SHAPE 0 of line 1 at 1.
        machine = Machines.idle();
        Machines.pokeAll(machine, 0, 0x02, 44);
        machine.write(0, 3);
        machine.write(8, 1);
        machine.write(10, 3);
        machine.write(14, 32);
        Machines.runTo(machine, 2, 0);
        check.due("dot(1, 11), of letter 0's byte, 2", machine.dot(1, 11), 3);
        check.due("SHAPE 0", machine.state(Machines.SHAPE_0), 44);
    }

    private static void isHeldUntil22(Check check) {
        PictureMachine machine = Machines.idle();
        machine.write(5, 0);
        check.due("own before cycle 22", machine.run(22), 0);
        check.due("held before cycle 22", machine.processor(Machines.HELD), 1);
        check.due("own in cycle 22", machine.run(1), 1);
        check.due("held after it", machine.processor(Machines.HELD), 0);
        machine.write(5, 0);
        check.due("own in a whole line, from cycle 23 on", machine.run(23), 0);
        check.due("held before the next cycle 22", machine.processor(Machines.HELD), 1);
        machine.write(5, 0);
        check.due("own in cycle 22, held twice", machine.run(1), 1);
        // The processor writes it in cycle 22 itself, which has begun then: its 21st own cycle.
        machine = Machines.withProgram(0xA5, 0x40);
        Machines.pokeNops(machine, 514, 7);
        Machines.pokeAll(machine, 521, 0x8D, 0x05, 0x03, 0xEA);
        Machines.runTo(machine, 0, 22);
        check.due("held before it", machine.processor(Machines.HELD), 0);
        machine.run(1);
        check.due("held by STA in cycle 22", machine.processor(Machines.HELD), 1);
        check.due("own until the next cycle 22", machine.run(23), 0);
        check.due("own in it", machine.run(1), 1);
    }

    private static void clearsWhateverIsWritten(Check check) {
        for (int v : new int[] {0, 64, 255}) {
            PictureMachine machine = Machines.idle();
            machine.poke(0, 0x80);
            machine.write(0, 1);
            machine.write(6, 192);
            Machines.runTo(machine, 13, 9);
            check.due("CAUSES before", machine.state(Machines.CAUSES), 192);
            machine.write(7, v);
            check.due("CAUSES after CLEAR " + v, machine.state(Machines.CAUSES), 0);
        }
    }

    private static void forgetsAllCollisions(Check check) {
        for (int v : new int[] {0, 255}) {
            PictureMachine machine = PlayersTest.overRow(3, 255, 255);
            Machines.runTo(machine, 2, 0);
            check.due("collisions of 0 before", machine.state(Machines.COLLISIONS_0), 14);
            check.due("collisions of 1 before", machine.state(Machines.COLLISIONS_1), 14);
            check.due("met before", machine.state(Machines.MET), 1);
            machine.write(18, v);
            check.due("collisions of 0 after HIT " + v, machine.state(Machines.COLLISIONS_0), 0);
            check.due("collisions of 1 after HIT " + v, machine.state(Machines.COLLISIONS_1), 0);
            check.due("met after HIT " + v, machine.state(Machines.MET), 0);
        }
    }

    private static void startsTheTimer(Check check) {
        for (int period : new int[] {0, 1, 255}) {
            PictureMachine machine = Machines.idle();
            machine.run(1);
            check.due("the sign before", machine.state(Machines.SIGN), 1);
            machine.write(21, period);
            check.due("the timer before START", machine.state(Machines.TIMER), 0);
            machine.write(22, 99);
            check.due("the timer after START", machine.state(Machines.TIMER), period);
            check.due("the sign after START", machine.state(Machines.SIGN), 0);
        }
    }

    private static void othersAreLost(Check check) {
        PictureMachine machine = PlayersTest.overRow(3, 255, 255);
        PictureMachine twin = PlayersTest.overRow(3, 255, 255);
        for (int k = 24; k < 32; k++) {
            machine.write(k, 129);
        }
        check.due("what is seen", Machines.seen(machine), Machines.seen(twin));
        machine.run(500);
        twin.run(500);
        check.due("what is seen later", Machines.seen(machine), Machines.seen(twin));
        for (int x = 0; x < 32; x++) {
            check.due("dot(1, " + x + ")", machine.dot(1, x), twin.dot(1, x));
        }
    }

    private static void readsTheLine(Check check) {
        check.due("in line 0", read(new PictureMachine(), 0), 0);
        PictureMachine machine = Machines.withProgram(0xAD, 0x00, 0x03, 0x85, 0x40, 0x4C, 0x00, 0x02);
        Machines.runTo(machine, 15, 23);
        check.due("in line 15", machine.processor(Machines.A), 15);
        machine.run(24);
        check.due("in line 0 again", machine.processor(Machines.A), 0);
        // The line is read in cycle 23, its last.
        machine = Machines.withProgram(0xA9, 0x63, 0xEA, 0xEA, 0xEA, 0xEA, 0xEA, 0xEA, 0xEA, 0xEA, 0xAD, 0x00, 0x03);
        machine.run(23);
        check.due("A before cycle 23", machine.processor(Machines.A), 0x63);
        machine.run(1);
        check.due("in cycle 23 of line 0", machine.processor(Machines.A), 0);
    }

    private static void readsTheLowestBitsOfChance(Check check) {
        PictureMachine machine = Machines.withProgram(0xEA, 0xEA, 0xAD, 0x05, 0x03);
        machine.run(7);
        check.due("CHANCE as a whole, with bit 8", machine.state(Machines.CHANCE), 387);
        machine.run(1);
        check.due("CHANCE as read", machine.processor(Machines.A), 131);
        check.due("reading it changes nothing", machine.state(Machines.CHANCE), 449);
        // After 39 cycles it is 256 + 32: as a code, JSR, to the sign, 1, and the byte that came in, of which is none.
        machine = new PictureMachine();
        Machines.pokeNops(machine, 512, 17);
        Machines.pokeAll(machine, 529, 0x4C, 0x05, 0x03);
        machine.run(39);
        check.due("CHANCE after 39", machine.state(Machines.CHANCE), 256 + 32);
        machine.run(8);
        check.due("PC after JSR", machine.processor(Machines.PC), 1);
    }

    private static void takesTheSign(Check check) {
        PictureMachine machine = Machines.withProgram(0xAD, 0x06, 0x03, 0xA6, 0x40, 0xAD, 0x06, 0x03);
        machine.write(21, 200);
        machine.run(3);
        check.due("the sign before", machine.state(Machines.SIGN), 1);
        machine.run(1);
        check.due("the sign as read", machine.processor(Machines.A), 1);
        check.due("the sign after", machine.state(Machines.SIGN), 0);
        machine.run(7);
        check.due("the sign as read again", machine.processor(Machines.A), 0);
    }

    private static void takesTheByte(Check check) {
        // 11 NOP are the own cycles of line 0.
        PictureMachine machine = new PictureMachine();
        Machines.pokeNops(machine, 512, 11);
        Machines.pokeAll(machine, 523, 0xAD, 0x07, 0x03, 0xAA, 0xAD, 0x07, 0x03);
        Machines.sendWithSum(machine, 49, 82, 1);
        machine.run(24 + 3);
        check.due("come in before", machine.state(Machines.CAME_IN), 1);
        machine.run(1);
        check.due("the byte", machine.processor(Machines.A), 65);
        check.due("come in after", machine.state(Machines.CAME_IN), 0);
        machine.run(6);
        check.due("X, the byte", machine.processor(Machines.X), 65);
        check.due("the byte as read again", machine.processor(Machines.A), 0);
    }

    private static void readsZeroWithoutByte(Check check) {
        PictureMachine machine = Machines.withProgram(0xA9, 5, 0xAD, 0x07, 0x03);
        machine.run(6);
        check.due("A", machine.processor(Machines.A), 0);
        check.due("come in", machine.state(Machines.CAME_IN), 0);
        // Answers that wait have not come in.
        machine = Machines.withProgram(0xA9, 5, 0xAD, 0x07, 0x03);
        Machines.sendWithSum(machine, 49, 82, 1);
        machine.run(6);
        check.due("A while answers wait", machine.processor(Machines.A), 0);
        check.due("waiting", machine.state(Machines.WAITING), 11);
    }

    private static void tellsWhetherOneHasComeIn(Check check) {
        check.due("at first", read(new PictureMachine(), 8), 0);
        // One answer, which waits in line 0, and has come in at its end.
        PictureMachine machine = new PictureMachine();
        Machines.sendWithSum(machine, 49, 0, 1);
        check.due("while it waits", read(machine, 8), 0);
        check.due("waiting", machine.state(Machines.WAITING), 1);
        machine = new PictureMachine();
        Machines.pokeNops(machine, 512, 11);
        Machines.pokeAll(machine, 523, 0xAD, 0x08, 0x03, 0xAA, 0xAD, 0x08, 0x03);
        Machines.sendWithSum(machine, 49, 0, 1);
        machine.run(24 + 10);
        check.due("in line 1", machine.processor(Machines.X), 1);
        check.due("again", machine.processor(Machines.A), 1);
        check.due("waiting", machine.state(Machines.WAITING), 0);
    }

    private static void readsTheStick(Check check) {
        for (int v : new int[] {0, 1, 128, 255}) {
            PictureMachine machine = new PictureMachine();
            machine.stick(v);
            check.due("the stick " + v, read(machine, 9), v);
        }
    }

    private static void othersRead255(Check check) {
        for (int k = 10; k < 32; k++) {
            check.due("register " + k, read(new PictureMachine(), k), 255);
            PictureMachine machine = Machines.withProgram(0xA9, 1, 0x8D, k, 0x03, 0xAD, k, 0x03);
            machine.run(10);
            check.due("register " + k + " behind a store", machine.processor(Machines.A), 255);
        }
    }

    private static void chanceBegins(Check check) {
        check.due("CHANCE", new PictureMachine().state(Machines.CHANCE), 511);
        PictureMachine machine = Machines.idle();
        machine.run(511);
        check.due("CHANCE after all its 511 values", machine.state(Machines.CHANCE), 511);
    }

    private static void chanceShifts(Check check) {
        PictureMachine machine = Machines.idle();
        int row = 511;
        for (int i = 0; i < 200; i++) {
            int highest = (row & 1) ^ (row >> 4 & 1);
            row = row / 2 + 256 * highest;
            machine.run(1);
            check.due("CHANCE after " + (i + 1), machine.state(Machines.CHANCE), row);
        }
    }

    private static void chanceShiftsInEachCycle(Check check) {
        // Held, jammed, taken or own: the cycle counts.
        PictureMachine idle = Machines.idle();
        PictureMachine jammed = new PictureMachine();
        PictureMachine held = Machines.idle();
        held.write(5, 0);
        held.write(0, 3);
        idle.run(22);
        jammed.run(22);
        held.run(22);
        check.due("CHANCE when jammed", jammed.state(Machines.CHANCE), idle.state(Machines.CHANCE));
        check.due("CHANCE when held and taken", held.state(Machines.CHANCE), idle.state(Machines.CHANCE));
    }

    private static void theTimerCountsDown(Check check) {
        PictureMachine machine = Machines.idle();
        machine.write(21, 255);
        machine.write(22, 0);
        for (int left = 254; left >= 0; left--) {
            machine.run(1);
            check.due("the timer", machine.state(Machines.TIMER), left);
        }
        check.due("its sign at 0", machine.state(Machines.SIGN), 0);
    }

    private static void theTimerBeginsAgain(Check check) {
        PictureMachine machine = Machines.idle();
        machine.write(21, 255);
        machine.write(22, 0);
        machine.run(255);
        check.due("the timer at 0", machine.state(Machines.TIMER), 0);
        check.due("its sign at 0", machine.state(Machines.SIGN), 0);
        machine.write(21, 2);
        machine.run(1);
        check.due("the timer below 0 is the PERIOD of then", machine.state(Machines.TIMER), 2);
        check.due("its sign", machine.state(Machines.SIGN), 1);
        int[] due = {1, 0, 2, 1, 0, 2};
        for (int timer : due) {
            machine.run(1);
            check.due("the timer later", machine.state(Machines.TIMER), timer);
            check.due("its sign stays", machine.state(Machines.SIGN), 1);
        }
    }

    private static void theTimerWithoutPeriod(Check check) {
        PictureMachine machine = Machines.idle();
        machine.write(22, 0);
        check.due("its sign after START", machine.state(Machines.SIGN), 0);
        for (int i = 0; i < 3; i++) {
            machine.run(1);
            check.due("the timer", machine.state(Machines.TIMER), 0);
            check.due("its sign", machine.state(Machines.SIGN), 1);
        }
    }

    private static void theTimerIsZeroAtFirst(Check check) {
        PictureMachine machine = Machines.idle();
        check.due("the timer", machine.state(Machines.TIMER), 0);
        check.due("its sign", machine.state(Machines.SIGN), 0);
        machine.write(21, 9);
        check.due("the timer after PERIOD", machine.state(Machines.TIMER), 0);
        machine.run(1);
        check.due("the timer below 0", machine.state(Machines.TIMER), 9);
        check.due("its sign", machine.state(Machines.SIGN), 1);
    }
}
